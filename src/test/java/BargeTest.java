import java.util.NoSuchElementException;

/** Promises 17 to 27: barges and convoys. */
public final class BargeTest {
    private static final Class<IndexOutOfBoundsException> NO_SUCH = IndexOutOfBoundsException.class;
    private static final Class<IllegalArgumentException> BAD = IllegalArgumentException.class;
    private static final Class<IllegalStateException> STATE = IllegalStateException.class;
    private static final Class<UnsupportedOperationException> CANNOT =
            UnsupportedOperationException.class;
    private static final int[] FAR = {Integer.MIN_VALUE, -1, 2, 8, Integer.MAX_VALUE};
    private static final Check c = new Check("BargeTest");

    public static void main(String[] args) {
        bargesAreAdded();
        theLimitsOfABarge();
        eightBarges();
        draughtsAreRoundedUp();
        bargesRunAground();
        wrongBarges();
        convoysAreCoupled();
        convoysThatCannotBeCoupled();
        convoysAreSplit();
        partsByLength();
        c.end();
    }

    private static void bargesAreAdded() {
        BargeRiver x = new BargeRiver();
        x.addReach(10, 25, 40, 50, 15);
        c.is("17 addBarge", 0, x.addBarge(0, 40, 5, 10));
        c.is("17 addBarge", 1, x.addBarge(1, 30, 6, 11));
        c.is("18 bargeCount", 2, x.bargeCount());
        c.is("19 reachOf(0)", 0, x.reachOf(0));
        c.is("19 reachOf(1)", 1, x.reachOf(1));
        c.is("20 cargoOf(0)", 0, x.cargoOf(0));
        c.is("21 draughtOf(0)", 5, x.draughtOf(0));
        c.is("21 draughtOf(1)", 6, x.draughtOf(1));
        c.is("22 isAfloat(0)", true, x.isAfloat(0));
        c.is("25 convoySize(1)", 1, x.convoySize(1));
        c.is("26 convoyAt(1, 0)", 1, x.convoyAt(1, 0));
        c.is("17 no water moves", 2, x.movementCount());
    }

    private static void theLimitsOfABarge() {
        BargeRiver x = new BargeRiver();
        x.addReach(10, 2, 40, 50, 15);
        x.addReach(10, 3, 40, 50, 15);
        x.addReach(10, 0, 40, 50, 15);
        int[][] wrong = {
            {0, 4, 5, 10}, {0, 81, 5, 10}, {0, 40, 1, 10}, {0, 40, 21, 10}, {0, 40, 5, 0},
            {0, 40, 5, 21}, {0, Integer.MIN_VALUE, 5, 10}, {0, 40, Integer.MAX_VALUE, 10},
            {3, 4, 5, 10},
        };
        for (int[] a : wrong) {
            c.refuses("17 addBarge" + java.util.Arrays.toString(a), BAD, x,
                    () -> x.addBarge(a[0], a[1], a[2], a[3]));
        }
        c.refuses("17 no reach -1", NO_SUCH, x, () -> x.addBarge(-1, 4, 5, 10));
        c.refuses("17 no reach 4", NO_SUCH, x, () -> x.addBarge(4, 4, 5, 10));
        c.refuses("17 draught 2 at level 2", CANNOT, x, () -> x.addBarge(1, 5, 2, 1));
        c.refuses("17 draught 2 at level 0", CANNOT, x, () -> x.addBarge(3, 5, 2, 1));
        c.is("17 draught 2 at level 3", 0, x.addBarge(2, 5, 2, 1));
        c.is("17 the most of all", 1, x.addBarge(0, 80, 20, 20));
        c.is("21 draughtOf(1)", 20, x.draughtOf(1));
    }

    private static void eightBarges() {
        BargeRiver x = new BargeRiver();
        for (int i = 0; i < 8; i++) {
            c.is("17 addBarge", i, x.addBarge(0, 5 + i, 5, 10));
        }
        c.refuses("17 a ninth barge", STATE, x, () -> x.addBarge(0, 40, 5, 10));
        c.refuses("17 a ninth barge out of range", BAD, x, () -> x.addBarge(0, 40, 1, 10));
        c.refuses("17 a ninth barge nowhere", NO_SUCH, x, () -> x.addBarge(1, 40, 5, 10));
        x.addReach(10, 0, 40, 50, 15);
        c.refuses("17 a ninth barge aground", STATE, x, () -> x.addBarge(1, 40, 5, 10));
        c.is("18 bargeCount", 8, x.bargeCount());
        c.is("26 convoyAt(7, 0)", 7, x.convoyAt(7, 0));
    }

    private static void draughtsAreRoundedUp() {
        BargeRiver x = new BargeRiver();
        x.addBarge(0, 40, 5, 10);
        x.addBarge(0, 40, 5, 1);
        x.buy(0, 1);
        c.is("21 1 ton of 10", 6, x.draughtOf(0));
        c.is("20 cargoOf(0)", 1, x.cargoOf(0));
        x.buy(0, 9);
        c.is("21 10 tons of 10", 6, x.draughtOf(0));
        x.buy(0, 1);
        c.is("21 11 tons of 10", 7, x.draughtOf(0));
        x.buy(1, 3);
        c.is("21 3 tons of 1", 8, x.draughtOf(1));
        c.is("20 cargoOf(1)", 3, x.cargoOf(1));
    }

    private static void bargesRunAground() {
        BargeRiver x = new BargeRiver();
        x.addReach(10, 0, 20, 50, 15);
        x.addBarge(0, 40, 20, 10);
        for (int week = 0; week < 9; week++) {
            x.endWeek();
        }
        c.is("22 draught 20 at level 21", true, x.isAfloat(0));
        x.turn(0);
        c.is("22 draught 20 at level 20", false, x.isAfloat(0));
        c.is("19 it stays in its reach", 0, x.reachOf(0));
        x.rain(0, 19);
        c.is("22 still level 20", false, x.isAfloat(0));
        x.rain(0, 1);
        c.is("22 level 21 again", true, x.isAfloat(0));
        BargeRiver y = new BargeRiver();
        y.addReach(10, 9, 20, 50, 15);
        y.addBarge(1, 40, 5, 10);
        y.buy(0, 21);
        y.endWeek();
        c.is("22 21 tons of 10 at level 8", false, y.isAfloat(0));
        c.is("39 greatestLoad", 0, y.greatestLoad(0));
        y.sell(0, 1);
        c.is("22 20 tons of 10 at level 8", true, y.isAfloat(0));
        c.is("39 greatestLoad", 0, y.greatestLoad(0));
    }

    private static void wrongBarges() {
        BargeRiver x = new BargeRiver();
        x.addReach(10, 25, 40, 50, 15);
        x.addBarge(0, 40, 5, 10);
        x.addBarge(0, 40, 5, 10);
        for (int b : FAR) {
            c.refuses("19 reachOf(" + b + ")", NO_SUCH, x, () -> x.reachOf(b));
            c.refuses("20 cargoOf(" + b + ")", NO_SUCH, x, () -> x.cargoOf(b));
            c.refuses("21 draughtOf(" + b + ")", NO_SUCH, x, () -> x.draughtOf(b));
            c.refuses("22 isAfloat(" + b + ")", NO_SUCH, x, () -> x.isAfloat(b));
            c.refuses("23 couple(0, " + b + ")", NO_SUCH, x, () -> x.couple(0, b));
            c.refuses("23 couple(" + b + ", 0)", NO_SUCH, x, () -> x.couple(b, 0));
            c.refuses("23 couple(" + b + ", the same)", NO_SUCH, x, () -> x.couple(b, b));
            c.refuses("24 uncouple(" + b + ")", NO_SUCH, x, () -> x.uncouple(b));
            c.refuses("25 convoySize(" + b + ")", NO_SUCH, x, () -> x.convoySize(b));
            c.refuses("26 convoyAt(" + b + ", 0)", NO_SUCH, x, () -> x.convoyAt(b, 0));
            c.refuses("26 convoyAt(" + b + ", 9)", NO_SUCH, x, () -> x.convoyAt(b, 9));
            c.refuses("27 partsFor(" + b + ", 0)", NO_SUCH, x, () -> x.partsFor(b, 0));
        }
        for (int k : new int[] {-1, 1, 5}) {
            c.refuses("27 partsFor(0, " + k + ")", NO_SUCH, x, () -> x.partsFor(0, k));
        }
    }

    private static void convoysAreCoupled() {
        BargeRiver x = new BargeRiver();
        for (int i = 0; i < 6; i++) {
            x.addBarge(0, 40, 5, 10);
        }
        c.is("23 couple(3, 1)", 2, x.couple(3, 1));
        c.is("23 couple(0, 4)", 2, x.couple(0, 4));
        c.is("23 by any of their barges", 4, x.couple(3, 4));
        int[] order = {3, 1, 0, 4};
        for (int place = 0; place < 4; place++) {
            for (int b : order) {
                c.is("26 convoyAt(" + b + ", " + place + ")", order[place], x.convoyAt(b, place));
                c.is("25 convoySize(" + b + ")", 4, x.convoySize(b));
            }
        }
        c.is("25 convoySize(2)", 1, x.convoySize(2));
        for (int place : new int[] {-1, 4, 5, Integer.MIN_VALUE, Integer.MAX_VALUE}) {
            c.refuses("26 no place " + place, NoSuchElementException.class, x,
                    () -> x.convoyAt(1, place));
        }
        c.refuses("26 no place 1", NoSuchElementException.class, x, () -> x.convoyAt(2, 1));
        c.is("23 another convoy", 2, x.couple(5, 2));
        c.is("26 convoyAt(2, 0)", 5, x.convoyAt(2, 0));
        c.is("26 convoyAt(5, 1)", 2, x.convoyAt(5, 1));
    }

    private static void convoysThatCannotBeCoupled() {
        BargeRiver x = new BargeRiver();
        x.addReach(10, 25, 40, 50, 15);
        for (int i = 0; i < 5; i++) {
            x.addBarge(0, 40, 5, 10);
        }
        x.addBarge(1, 40, 5, 10);
        c.refuses("23 with itself", BAD, x, () -> x.couple(0, 0));
        c.refuses("23 another reach", STATE, x, () -> x.couple(0, 5));
        c.is("23 couple(0, 1)", 2, x.couple(0, 1));
        c.refuses("23 the same convoy", BAD, x, () -> x.couple(0, 1));
        c.refuses("23 the same convoy", BAD, x, () -> x.couple(1, 0));
        c.is("23 couple(2, 0)", 3, x.couple(2, 0));
        c.is("23 couple(3, 4)", 2, x.couple(3, 4));
        c.refuses("23 five barges", STATE, x, () -> x.couple(1, 4));
        c.refuses("23 five barges", STATE, x, () -> x.couple(3, 2));
        c.is("24 uncouple(4)", 1, x.uncouple(4));
        c.is("23 four barges", 4, x.couple(4, 0));
        c.refuses("23 the same convoy of four", BAD, x, () -> x.couple(4, 1));
        c.refuses("23 five barges", STATE, x, () -> x.couple(3, 1));
    }

    private static void convoysAreSplit() {
        BargeRiver x = new BargeRiver();
        for (int i = 0; i < 5; i++) {
            x.addBarge(0, 40, 5, 10);
        }
        c.refuses("24 a single barge", STATE, x, () -> x.uncouple(0));
        x.couple(3, 1);
        x.couple(3, 0);
        x.couple(3, 4);
        c.refuses("24 the first barge", STATE, x, () -> x.uncouple(3));
        c.is("24 ahead of the third", 2, x.uncouple(0));
        c.is("24 the front", "0: 30dm 0+4 2 3+1", Check.written(x, 0));
        c.is("25 convoySize(1)", 2, x.convoySize(1));
        c.is("25 convoySize(4)", 2, x.convoySize(4));
        c.refuses("24 now the first one", STATE, x, () -> x.uncouple(0));
        c.is("24 ahead of the second", 1, x.uncouple(1));
        c.is("24 written", "0: 30dm 0+4 1 2 3", Check.written(x, 0));
        x.couple(0, 3);
        x.couple(0, 1);
        c.is("24 ahead of the last one", 3, x.uncouple(1));
        c.is("24 written", "0: 30dm 0+4+3 1 2", Check.written(x, 0));
        c.is("24 ahead of the second of three", 1, x.uncouple(4));
        c.is("24 written", "0: 30dm 0 1 2 4+3", Check.written(x, 0));
    }

    private static void partsByLength() {
        BargeRiver x = new BargeRiver();
        x.addReach(10, 25, 40, 60, 15);
        x.addReach(10, 25, 40, 59, 5);
        x.addReach(10, 25, 40, 20, 15);
        x.addBarge(0, 20, 10, 10);
        x.addBarge(0, 40, 10, 10);
        x.addBarge(0, 30, 10, 10);
        x.addBarge(0, 10, 10, 10);
        x.couple(0, 1);
        x.couple(0, 2);
        x.couple(0, 3);
        c.is("27 20+40 30+10 in 60", 2, x.partsFor(2, 0));
        c.is("27 20 40 30+10 in 59, too deep and far away", 3, x.partsFor(0, 1));
        c.refuses("27 too long for 20", CANNOT, x, () -> x.partsFor(3, 2));
        x.uncouple(3);
        c.is("27 10 in 20", 1, x.partsFor(3, 2));
        c.is("27 20+40 30 in 60", 2, x.partsFor(1, 0));
        x.uncouple(1);
        c.is("27 20 in 20", 1, x.partsFor(0, 2));
        c.refuses("27 40 in 20", CANNOT, x, () -> x.partsFor(1, 2));
        x.couple(2, 0);
        c.refuses("27 the last one decides too", CANNOT, x, () -> x.partsFor(0, 2));
        BargeRiver y = new BargeRiver();
        y.addReach(10, 25, 40, 20, 15);
        y.addBarge(0, 10, 5, 10);
        y.addBarge(0, 15, 5, 10);
        y.addBarge(0, 10, 5, 10);
        y.couple(0, 1);
        y.couple(0, 2);
        c.is("27 10 15 10: none is moved ahead", 3, y.partsFor(0, 0));
        for (int week = 0; week < 30; week++) {
            y.endWeek();
        }
        c.is("27 without water", 3, y.partsFor(0, 0));
    }
}
