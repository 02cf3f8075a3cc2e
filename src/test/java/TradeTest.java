/** Promises 34 to 41: trade. */
public final class TradeTest {
    private static final Class<IndexOutOfBoundsException> NO_SUCH = IndexOutOfBoundsException.class;
    private static final Class<IllegalArgumentException> BAD = IllegalArgumentException.class;
    private static final Class<IllegalStateException> STATE = IllegalStateException.class;
    private static final Class<UnsupportedOperationException> CANNOT =
            UnsupportedOperationException.class;
    private static final int[] FAR = {Integer.MIN_VALUE, -1, 1, 8, Integer.MAX_VALUE};
    private static final Check c = new Check("TradeTest");

    public static void main(String[] args) {
        prices();
        buying();
        buyingAfloat();
        selling();
        sellingToADraught();
        greatestLoads();
        worths();
        theBestReach();
        theBestReachThatIsPossible();
        wrongBarges();
        c.end();
    }

    private static void prices() {
        BargeRiver x = new BargeRiver();
        x.addReach(10, 20, 40, 50, 15);
        x.rain(1, 20);
        x.endWeek();
        c.is("34 priceIn(0)", 110, x.priceIn(0));
        c.is("34 priceIn(1)", 90, x.priceIn(1));
    }

    private static void buying() {
        BargeRiver x = new BargeRiver();
        x.addBarge(0, 40, 5, 20);
        c.is("35 money", 10000L, x.money());
        c.is("36 buy(0, 1)", 9900L, x.buy(0, 1));
        c.is("35 money", 9900L, x.money());
        c.is("20 cargoOf(0)", 1, x.cargoOf(0));
        for (int tons : new int[] {0, -1, 1000, Integer.MIN_VALUE, Integer.MAX_VALUE}) {
            c.refuses("36 buy(0, " + tons + ")", BAD, x, () -> x.buy(0, tons));
            c.refuses("36 buy(1, " + tons + ")", NO_SUCH, x, () -> x.buy(1, tons));
            c.refuses("37 sell(0, " + tons + ")", BAD, x, () -> x.sell(0, tons));
            c.refuses("37 sell(1, " + tons + ")", NO_SUCH, x, () -> x.sell(1, tons));
        }
        c.refuses("36 a ton too many for the money", STATE, x, () -> x.buy(0, 100));
        c.is("36 all the money", 0L, x.buy(0, 99));
        c.refuses("36 no money", STATE, x, () -> x.buy(0, 1));
        c.refuses("36 afloat before money", CANNOT, x, () -> x.buy(0, 999));
        x.endWeek();
        c.is("37 sold for more", 11000L, x.sell(0, 100));
        c.is("36 bought for more", 10890L, x.buy(0, 1));
        BargeRiver y = new BargeRiver();
        y.addReach(50, 60, 40, 50, 15);
        y.addBarge(0, 40, 5, 20);
        y.addBarge(1, 40, 2, 20);
        for (int week = 0; week < 18; week++) {
            y.rain(0, 40);
            y.endWeek();
        }
        c.is("34 a low price", 11, y.priceIn(0));
        c.is("36 at the price of its reach", 9890L, y.buy(0, 10));
        c.is("34 a high price", 572, y.priceIn(1));
        c.refuses("36 too much at the high price", STATE, y, () -> y.buy(1, 18));
        c.is("36 at the high price", 166L, y.buy(1, 17));
    }

    private static void buyingAfloat() {
        BargeRiver x = new BargeRiver();
        x.addReach(10, 8, 40, 50, 15);
        x.addBarge(1, 40, 5, 10);
        c.refuses("36 draught 8 at level 8", CANNOT, x, () -> x.buy(0, 21));
        c.is("36 draught 7 at level 8", 8000L, x.buy(0, 20));
        c.refuses("36 a ton more", CANNOT, x, () -> x.buy(0, 1));
        x.sell(0, 20);
        for (int week = 0; week < 3; week++) {
            x.endWeek();
        }
        c.refuses("36 a barge aground", CANNOT, x, () -> x.buy(0, 1));
    }

    private static void selling() {
        BargeRiver x = new BargeRiver();
        x.addReach(10, 20, 40, 50, 15);
        x.addBarge(0, 40, 5, 10);
        x.addBarge(0, 40, 5, 10);
        c.refuses("37 no cargo", STATE, x, () -> x.sell(0, 1));
        x.buy(0, 20);
        x.buy(1, 30);
        c.refuses("37 a ton too many", STATE, x, () -> x.sell(0, 21));
        c.is("37 sell(0, 5)", 5500L, x.sell(0, 5));
        c.is("20 cargoOf(0)", 15, x.cargoOf(0));
        c.is("20 cargoOf(1)", 30, x.cargoOf(1));
        c.is("35 money", 5500L, x.money());
        c.is("37 the rest", 7000L, x.sell(0, 15));
        c.is("21 draughtOf(0)", 5, x.draughtOf(0));
        x.pass(1, true);
        x.rain(1, 60);
        x.endWeek();
        c.is("37 at the price of its reach", 7000L + 90, x.sell(1, 1));
        while (x.levelOf(1) > 0) {
            x.endWeek();
        }
        c.is("37 even aground", false, x.isAfloat(1));
        c.is("37 even aground", 7090L + 29L * x.priceIn(1), x.sell(1, 29));
        c.is("36 nothing is left", 0, x.cargoOf(1));
    }

    private static void sellingToADraught() {
        BargeRiver x = new BargeRiver();
        x.addBarge(0, 40, 5, 10);
        x.buy(0, 33);
        for (int draught : new int[] {0, -1, 61, Integer.MIN_VALUE, Integer.MAX_VALUE}) {
            c.refuses("38 to " + draught, BAD, x, () -> x.sellToDraught(0, draught));
            c.refuses("38 no barge 1", NO_SUCH, x, () -> x.sellToDraught(1, draught));
        }
        c.refuses("38 less than empty", STATE, x, () -> x.sellToDraught(0, 4));
        c.refuses("38 the least draught", STATE, x, () -> x.sellToDraught(0, 1));
        c.is("38 the greatest draught", 0, x.sellToDraught(0, 60));
        c.is("38 not greater already", 0, x.sellToDraught(0, 9));
        c.is("35 money", 6700L, x.money());
        c.is("38 to 8", 3, x.sellToDraught(0, 8));
        c.is("20 cargoOf(0)", 30, x.cargoOf(0));
        c.is("21 draughtOf(0)", 8, x.draughtOf(0));
        c.is("35 money", 7000L, x.money());
        x.endWeek();
        c.is("38 to 6", 20, x.sellToDraught(0, 6));
        c.is("35 money at the new price", 9200L, x.money());
        c.is("38 to the empty draught", 10, x.sellToDraught(0, 5));
        c.is("20 cargoOf(0)", 0, x.cargoOf(0));
        c.is("35 money at the new price", 10300L, x.money());
        c.is("38 empty already", 0, x.sellToDraught(0, 5));
    }

    private static void greatestLoads() {
        BargeRiver x = new BargeRiver();
        x.addReach(10, 8, 40, 50, 15);
        x.addBarge(0, 40, 5, 20);
        x.addBarge(1, 40, 5, 7);
        x.addBarge(1, 40, 7, 7);
        c.is("39 more than the money", 480, x.greatestLoad(0));
        c.is("39 to draught 7", 14, x.greatestLoad(1));
        c.is("39 afloat without room", 0, x.greatestLoad(2));
        x.buy(1, 5);
        c.is("39 what is left", 9, x.greatestLoad(1));
        x.buy(1, 9);
        c.is("39 nothing is left", 0, x.greatestLoad(1));
        c.is("22 and it is afloat", true, x.isAfloat(1));
        x.endWeek();
        c.is("22 aground with cargo", false, x.isAfloat(1));
        c.is("39 aground", 0, x.greatestLoad(1));
        c.is("39 aground without cargo", 0, x.greatestLoad(2));
        c.is("39 a decimetre less", 460, x.greatestLoad(0));
        while (x.levelOf(1) > 0) {
            x.endWeek();
        }
        c.is("39 without water", 0, x.greatestLoad(1));
        BargeRiver y = new BargeRiver();
        y.addReach(50, 60, 40, 50, 15);
        y.addBarge(1, 40, 2, 20);
        c.is("39 the most of all", 1140, y.greatestLoad(0));
    }

    private static void worths() {
        BargeRiver x = new BargeRiver();
        x.addReach(10, 20, 40, 50, 15);
        x.addBarge(0, 40, 5, 10);
        c.is("40 without cargo", 0, x.worthIn(0, 1));
        x.buy(0, 7);
        x.rain(1, 20);
        x.endWeek();
        c.is("40 worthIn(0, 0)", 770, x.worthIn(0, 0));
        c.is("40 worthIn(0, 1)", 630, x.worthIn(0, 1));
        for (int r : new int[] {-1, 2, 6, Integer.MIN_VALUE, Integer.MAX_VALUE}) {
            c.refuses("40 worthIn(0, " + r + ")", NO_SUCH, x, () -> x.worthIn(0, r));
        }
        c.is("35 nothing is sold", 9300L, x.money());
        while (x.levelOf(0) > 0) {
            x.endWeek();
        }
        c.is("40 although it is aground", 7 * x.priceIn(1), x.worthIn(0, 1));
    }

    private static void theBestReach() {
        BargeRiver x = new BargeRiver();
        x.addReach(10, 20, 10, 50, 15);
        x.addReach(10, 20, 10, 50, 15);
        x.addBarge(1, 40, 5, 10);
        c.is("41 all the same", 0, x.bestReach(0));
        x.buy(0, 3);
        c.is("41 all the same with cargo", 0, x.bestReach(0));
        x.rain(0, 40);
        x.endWeek();
        c.is("41 the first of the dearest", 1, x.bestReach(0));
        x.rain(1, 25);
        x.rain(0, 40);
        x.endWeek();
        c.is("41 the last one", 2, x.bestReach(0));
        x.sell(0, 3);
        c.is("41 without cargo", 0, x.bestReach(0));
        c.is("19 it stays", 1, x.reachOf(0));
        c.is("46 no water moves but rain and air", 12, x.movementCount());
    }

    private static void theBestReachThatIsPossible() {
        BargeRiver x = new BargeRiver();
        x.addReach(10, 20, 10, 50, 15);
        x.addReach(10, 20, 10, 39, 15);
        x.addBarge(1, 20, 5, 10);
        x.addBarge(1, 40, 5, 10);
        x.couple(0, 1);
        x.buy(0, 2);
        x.rain(0, 40);
        x.rain(1, 25);
        x.endWeek();
        c.is("34 the dearest", 110, x.priceIn(2));
        c.is("41 the dearest is too far for the convoy", 0, x.bestReach(0));
        x.uncouple(1);
        c.is("41 but not for the barge alone", 2, x.bestReach(0));
        x.couple(1, 0);
        c.is("41 the first one is too long", 0, x.bestReach(0));
        while (x.levelOf(1) > 4) {
            x.endWeek();
        }
        c.is("41 aground it is where it is", 1, x.bestReach(0));
    }

    private static void wrongBarges() {
        BargeRiver x = new BargeRiver();
        x.addBarge(0, 40, 5, 10);
        for (int b : FAR) {
            c.refuses("36 buy(" + b + ", 1)", NO_SUCH, x, () -> x.buy(b, 1));
            c.refuses("37 sell(" + b + ", 1)", NO_SUCH, x, () -> x.sell(b, 1));
            c.refuses("38 sellToDraught(" + b + ", 9)", NO_SUCH, x, () -> x.sellToDraught(b, 9));
            c.refuses("39 greatestLoad(" + b + ")", NO_SUCH, x, () -> x.greatestLoad(b));
            c.refuses("40 worthIn(" + b + ", 0)", NO_SUCH, x, () -> x.worthIn(b, 0));
            c.refuses("41 bestReach(" + b + ")", NO_SUCH, x, () -> x.bestReach(b));
        }
    }
}
