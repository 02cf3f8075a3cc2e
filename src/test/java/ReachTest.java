/** Promises 1 to 16: reaches and locks. */
public final class ReachTest {
    private static final Class<IndexOutOfBoundsException> NO_SUCH = IndexOutOfBoundsException.class;
    private static final Class<IllegalArgumentException> BAD = IllegalArgumentException.class;
    private static final Check c = new Check("ReachTest");

    public static void main(String[] args) {
        aNewRiver();
        reachesAreAdded();
        theLimitsOfAReach();
        sixReaches();
        wrongReaches();
        wrongLocks();
        levelsAreRoundedDown();
        chambersTurn();
        rainFallsAndOverflows();
        wrongRain();
        sixFullReaches();
        weeksAndPrices();
        pricesAreCompared();
        pricesStayInBounds();
        c.end();
    }

    private static void aNewRiver() {
        BargeRiver x = new BargeRiver();
        c.is("1 reachCount", 1, x.reachCount());
        c.is("1 bargeCount", 0, x.bargeCount());
        c.is("1 areaOf(0)", 20, x.areaOf(0));
        c.is("1 levelOf(0)", 30, x.levelOf(0));
        c.is("1 volumeOf(0)", 600, x.volumeOf(0));
        c.is("1 priceIn(0)", 100, x.priceIn(0));
        c.is("1 money", 10000L, x.money());
        c.is("1 weekCount", 0, x.weekCount());
        c.is("1 the movement 0", "-1>0:600", Check.movements(x, 0));
        c.is("1 the line", "", Check.line(x));
        c.refuses("1 no lock 0", NO_SUCH, x, () -> x.isFull(0));
        c.refuses("1 no reason", java.util.NoSuchElementException.class, x, x::refusalReason);
        c.refuses("1 no lock of it", java.util.NoSuchElementException.class, x, x::refusalLock);
    }

    private static void reachesAreAdded() {
        BargeRiver x = new BargeRiver();
        c.is("2 addReach", 1, x.addReach(10, 25, 40, 50, 15));
        c.is("2 addReach", 2, x.addReach(7, 3, 41, 51, 16));
        c.is("3 reachCount", 3, x.reachCount());
        c.is("4 areaOf(1)", 10, x.areaOf(1));
        c.is("4 areaOf(2)", 7, x.areaOf(2));
        c.is("5 volumeOf(1)", 250, x.volumeOf(1));
        c.is("5 volumeOf(2)", 21, x.volumeOf(2));
        c.is("6 volumeBySteps(1)", 250, x.volumeBySteps(1));
        c.is("6 volumeBySteps(2)", 21, x.volumeBySteps(2));
        c.is("7 levelOf(1)", 25, x.levelOf(1));
        c.is("8 lockfulOf(0)", 40, x.lockfulOf(0));
        c.is("8 lockfulOf(1)", 41, x.lockfulOf(1));
        c.is("9 lengthOf(0)", 50, x.lengthOf(0));
        c.is("9 lengthOf(1)", 51, x.lengthOf(1));
        c.is("10 sillOf(0)", 15, x.sillOf(0));
        c.is("10 sillOf(1)", 16, x.sillOf(1));
        c.is("11 isFull(0)", false, x.isFull(0));
        c.is("11 isFull(1)", false, x.isFull(1));
        c.is("13 waterThrough(0)", 0, x.waterThrough(0));
        c.is("34 priceIn(2)", 100, x.priceIn(2));
        c.is("2 the movements", "-1>0:600 -1>1:250 -1>2:21", Check.movements(x, 0));
        c.is("2 the volume of the reach 0", 600, x.volumeOf(0));
    }

    private static void theLimitsOfAReach() {
        BargeRiver x = new BargeRiver();
        int[][] wrong = {
            {0, 20, 40, 50, 15}, {51, 20, 40, 50, 15}, {10, -1, 40, 50, 15}, {10, 61, 40, 50, 15},
            {10, 20, 0, 50, 15}, {10, 20, 201, 50, 15}, {10, 20, 40, 9, 15}, {10, 20, 40, 201, 15},
            {10, 20, 40, 50, 4}, {10, 20, 40, 50, 61},
            {Integer.MIN_VALUE, 20, 40, 50, 15}, {10, Integer.MAX_VALUE, 40, 50, 15},
        };
        for (int[] a : wrong) {
            c.refuses("2 addReach" + java.util.Arrays.toString(a), BAD, x,
                    () -> x.addReach(a[0], a[1], a[2], a[3], a[4]));
        }
        c.is("2 the least of all", 1, x.addReach(1, 0, 1, 10, 5));
        c.is("2 the most of all", 2, x.addReach(50, 60, 200, 200, 60));
        c.is("2 a reach without water", 0, x.volumeOf(1));
        c.is("2 a full reach", 3000, x.volumeOf(2));
        c.is("2 no movement for no water", "-1>0:600 -1>2:3000", Check.movements(x, 0));
    }

    private static void sixReaches() {
        BargeRiver x = new BargeRiver();
        for (int reach = 1; reach < 6; reach++) {
            c.is("2 addReach", reach, x.addReach(reach, 20, 40, 50, 15));
        }
        c.is("3 reachCount", 6, x.reachCount());
        c.is("4 areaOf(5)", 5, x.areaOf(5));
        c.refuses("2 a seventh reach", IllegalStateException.class, x,
                () -> x.addReach(1, 20, 40, 50, 15));
        c.refuses("2 a seventh reach out of range", BAD, x, () -> x.addReach(0, 20, 40, 50, 15));
        c.refuses("4 areaOf(6)", NO_SUCH, x, () -> x.areaOf(6));
        c.refuses("8 lockfulOf(5)", NO_SUCH, x, () -> x.lockfulOf(5));
    }

    private static void wrongReaches() {
        BargeRiver x = new BargeRiver();
        x.addReach(10, 25, 40, 50, 15);
        for (int r : new int[] {-1, 2, 6, 10, Integer.MIN_VALUE, Integer.MAX_VALUE}) {
            c.refuses("4 areaOf(" + r + ")", NO_SUCH, x, () -> x.areaOf(r));
            c.refuses("5 volumeOf(" + r + ")", NO_SUCH, x, () -> x.volumeOf(r));
            c.refuses("6 volumeBySteps(" + r + ")", NO_SUCH, x, () -> x.volumeBySteps(r));
            c.refuses("7 levelOf(" + r + ")", NO_SUCH, x, () -> x.levelOf(r));
            c.refuses("14 rain(" + r + ")", NO_SUCH, x, () -> x.rain(r, 1));
            c.refuses("34 priceIn(" + r + ")", NO_SUCH, x, () -> x.priceIn(r));
        }
    }

    private static void wrongLocks() {
        BargeRiver x = new BargeRiver();
        x.addReach(10, 25, 40, 50, 15);
        x.addReach(10, 25, 40, 50, 15);
        for (int k : new int[] {-1, 2, 5, 10, Integer.MIN_VALUE, Integer.MAX_VALUE}) {
            c.refuses("8 lockfulOf(" + k + ")", NO_SUCH, x, () -> x.lockfulOf(k));
            c.refuses("9 lengthOf(" + k + ")", NO_SUCH, x, () -> x.lengthOf(k));
            c.refuses("10 sillOf(" + k + ")", NO_SUCH, x, () -> x.sillOf(k));
            c.refuses("11 isFull(" + k + ")", NO_SUCH, x, () -> x.isFull(k));
            c.refuses("12 turn(" + k + ")", NO_SUCH, x, () -> x.turn(k));
            c.refuses("13 waterThrough(" + k + ")", NO_SUCH, x, () -> x.waterThrough(k));
        }
    }

    private static void levelsAreRoundedDown() {
        BargeRiver x = new BargeRiver();
        x.addReach(10, 2, 1, 50, 15);
        x.rain(1, 9);
        c.is("7 29 on 10", 2, x.levelOf(1));
        x.rain(1, 1);
        c.is("7 30 on 10", 3, x.levelOf(1));
        x.turn(0);
        c.is("7 599 on 20", 29, x.levelOf(0));
    }

    private static void chambersTurn() {
        BargeRiver x = new BargeRiver();
        x.addReach(10, 5, 200, 50, 15);
        x.addReach(10, 0, 60, 50, 15);
        c.is("12 turn fills", true, x.turn(0));
        c.is("11 isFull", true, x.isFull(0));
        c.is("11 isFull of another lock", false, x.isFull(1));
        c.is("5 the upper reach", 400, x.volumeOf(0));
        c.is("5 the lower reach", 50, x.volumeOf(1));
        c.is("13 not through yet", 0, x.waterThrough(0));
        c.is("12 turn empties", false, x.turn(0));
        c.is("11 isFull", false, x.isFull(0));
        c.is("5 the lower reach", 250, x.volumeOf(1));
        c.is("13 through", 200, x.waterThrough(0));
        c.is("12 turn of the lock 1", true, x.turn(1));
        c.is("12 turn of the lock 1", false, x.turn(1));
        c.is("13 through the lock 1", 60, x.waterThrough(1));
        x.turn(0);
        x.turn(0);
        x.turn(0);
        c.is("5 nothing is left", 0, x.volumeOf(0));
        c.is("12 a full chamber is emptied without water above", false, x.turn(0));
        c.is("13 all through", 600, x.waterThrough(0));
        c.is("12 the movements", "0>10:200 10>1:200 1>11:60 11>2:60 0>10:200 10>1:200 0>10:200"
                + " 10>1:200", Check.movements(x, 2));
        c.refuses("12 too little water", UnsupportedOperationException.class, x, () -> x.turn(0));
        x.rain(0, 199);
        c.refuses("12 199 of 200", UnsupportedOperationException.class, x, () -> x.turn(0));
        x.rain(0, 1);
        c.is("12 just enough water", true, x.turn(0));
        c.is("5 the last water", 0, x.volumeOf(0));
        x.rain(1, 5000);
        int before = x.movementCount();
        c.is("12 emptying into a full reach", false, x.turn(0));
        c.is("12 it goes on into the sea", "10>1:200 1>2:200 2>-2:200", Check.movements(x, before));
        c.is("13 through without what overflows", 800, x.waterThrough(0));
        c.is("13 overflow is not through", 60, x.waterThrough(1));
    }

    private static void rainFallsAndOverflows() {
        BargeRiver x = new BargeRiver();
        c.is("14 up to the brim", 0, x.rain(0, 600));
        c.is("7 the highest level", 60, x.levelOf(0));
        c.is("14 beyond", 1, x.rain(0, 1));
        c.is("7 still the highest level", 60, x.levelOf(0));
        c.is("14 the movements", "-1>0:600 -1>0:1 0>-2:1", Check.movements(x, 1));
        x.addReach(10, 59, 40, 50, 15);
        x.addReach(5, 58, 40, 50, 15);
        int before = x.movementCount();
        c.is("14 over three reaches", 5, x.rain(0, 25));
        c.is("14 its movements", "-1>0:25 0>1:25 1>2:15 2>-2:5", Check.movements(x, before));
        c.is("43 seaTotal", 6, x.seaTotal());
        c.is("14 the most rain", 5000, x.rain(1, 5000));
        c.is("5 volumeOf(2)", 300, x.volumeOf(2));
        c.is("14 the least rain", 1, x.rain(2, 1));
        c.is("14 the sea gets its rain alone", 5007, x.seaTotal());
        c.is("6 volumeBySteps(1)", 600, x.volumeBySteps(1));
        BargeRiver y = new BargeRiver();
        y.addReach(10, 0, 40, 50, 15);
        c.is("14 what the next reach can hold", 0, y.rain(0, 1200));
        c.is("14 it holds it", 600, y.volumeOf(1));
        c.is("14 then the sea", 3, y.rain(0, 3));
    }

    private static void sixFullReaches() {
        BargeRiver x = new BargeRiver();
        for (int reach = 1; reach < 6; reach++) {
            x.addReach(1, 60, 1, 10, 5);
        }
        c.is("12 a lockful of 1", true, x.turn(0));
        c.is("11 isFull", true, x.isFull(0));
        c.is("12 a lockful of 1", false, x.turn(0));
        c.is("14 up to the brim", 0, x.rain(0, 601));
        int before = x.movementCount();
        c.is("14 all goes into the sea", 7, x.rain(0, 7));
        c.is("14 over six reaches", "-1>0:7 0>1:7 1>2:7 2>3:7 3>4:7 4>5:7 5>-2:7",
                Check.movements(x, before));
        before = x.movementCount();
        c.is("15 endWeek of six", 5, x.endWeek());
        c.is("15 its movements", "0>-3:20 1>-3:1 2>-3:1 3>-3:1 4>-3:1 5>-3:1",
                Check.movements(x, before));
        c.is("45 heldTotal of six", 1475, x.heldTotal());
        c.is("50 meanLevel of six", 59.0, x.meanLevel());
        c.is("51 isBalanced", true, x.isBalanced());
        x.addBarge(0, 10, 2, 1);
        c.is("41 bestReach of six", 0, x.bestReach(0));
        x.buy(0, 2);
        c.is("41 bestReach of six", 1, x.bestReach(0));
    }

    private static void wrongRain() {
        BargeRiver x = new BargeRiver();
        for (int v : new int[] {0, -1, 5001, Integer.MIN_VALUE, Integer.MAX_VALUE}) {
            c.refuses("14 rain(0, " + v + ")", BAD, x, () -> x.rain(0, v));
            c.refuses("14 rain(1, " + v + ")", NO_SUCH, x, () -> x.rain(1, v));
        }
    }

    private static void weeksAndPrices() {
        BargeRiver x = new BargeRiver();
        x.addReach(10, 0, 40, 50, 15);
        x.addReach(10, 0, 40, 50, 15);
        x.rain(2, 4);
        c.is("15 endWeek", 1, x.endWeek());
        c.is("16 weekCount", 1, x.weekCount());
        c.is("15 the movements", "0>-3:20 2>-3:4", Check.movements(x, 2));
        c.is("15 nothing is left", 0, x.volumeOf(2));
        c.is("15 the price rises", 110, x.priceIn(0));
        c.is("15 the price stays", 100, x.priceIn(1));
        c.is("44 airTotal", 24, x.airTotal());
        x.rain(0, 40);
        x.rain(1, 25);
        c.is("15 endWeek", 0, x.endWeek());
        c.is("15 the price falls by 11", 99, x.priceIn(0));
        c.is("15 the price falls by 10", 90, x.priceIn(1));
        c.is("15 endWeek", 2, x.endWeek());
        c.is("15 the price rises by 10", 109, x.priceIn(0));
        c.is("15 the price rises by 9", 99, x.priceIn(1));
        c.is("16 weekCount", 3, x.weekCount());
    }

    private static void pricesAreCompared() {
        BargeRiver x = new BargeRiver();
        x.endWeek();
        x.addReach(10, 20, 40, 50, 15);
        x.rain(1, 10);
        c.is("15 as high as when it was added", 1, x.endWeek());
        c.is("15 so its price stays", 100, x.priceIn(1));
        x.rain(1, 19);
        c.is("15 as high by decimetres", 1, x.endWeek());
        c.is("15 so its price stays", 100, x.priceIn(1));
        x.rain(1, 11);
        x.rain(0, 600);
        c.is("15 higher", 0, x.endWeek());
        c.is("15 so its price falls", 90, x.priceIn(1));
        BargeRiver y = new BargeRiver();
        y.rain(0, 600);
        y.endWeek();
        c.is("15 compared with the beginning", 90, y.priceIn(0));
        y.endWeek();
        c.is("15 compared with the week before", 99, y.priceIn(0));
    }

    private static void pricesStayInBounds() {
        BargeRiver x = new BargeRiver();
        x.addReach(1, 60, 1, 10, 5);
        int[] rising = {
            110, 121, 134, 148, 163, 180, 198, 218, 240, 264, 291, 321, 354, 390, 429, 472, 520,
            572, 630, 693, 763, 840, 924, 1017, 1119, 1231, 1355, 1491, 1641, 1806, 1987, 2186,
            2405, 2646, 2911, 3203, 3524, 3877, 4265, 4692, 5162, 5679, 6247, 6872, 7560, 8316,
            9148, 9999,
        };
        for (int week = 0; week < rising.length; week++) {
            c.is("15 endWeek " + week, week < 30 ? 2 : 1, x.endWeek());
            c.is("15 the price in the week " + week, rising[week], x.priceIn(1));
        }
        c.is("15 a dry reach keeps its price", 1806, x.priceIn(0));
        c.is("15 a price that stays is not higher", 0, x.endWeek());
        c.is("15 the highest price", 9999, x.priceIn(1));
        x.rain(1, 3);
        c.is("15 a fall is not counted", 0, x.endWeek());
        c.is("15 falling from the highest", 8999, x.priceIn(1));
        c.is("15 rising again", 1, x.endWeek());
        c.is("15 rising by 900", 9899, x.priceIn(1));
        c.is("15 a rise that is cut is counted", 1, x.endWeek());
        c.is("15 the highest again", 9999, x.priceIn(1));
        BargeRiver y = new BargeRiver();
        y.addReach(1, 0, 1, 10, 5);
        int[] falling = {
            90, 81, 72, 64, 57, 51, 45, 40, 36, 32, 28, 25, 22, 19, 17, 15, 13, 11, 9, 8, 7, 6, 5,
            4, 3, 2, 1, 1, 1,
        };
        for (int week = 0; week < falling.length; week++) {
            y.rain(1, 2);
            c.is("15 endWeek " + week, 1, y.endWeek());
            c.is("15 the low price " + week, falling[week], y.priceIn(1));
        }
        c.is("15 it rises from the lowest", 2, y.endWeek());
        c.is("15 by one", 2, y.priceIn(1));
    }
}
