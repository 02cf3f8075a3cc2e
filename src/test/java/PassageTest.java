import java.util.NoSuchElementException;

/** Promises 28 to 33: passages. */
public final class PassageTest {
    private static final Class<IndexOutOfBoundsException> NO_SUCH = IndexOutOfBoundsException.class;
    private static final Class<UnsupportedOperationException> CANNOT =
            UnsupportedOperationException.class;
    private static final int[] FAR = {Integer.MIN_VALUE, -1, 4, 8, Integer.MAX_VALUE};
    private static final Check c = new Check("PassageTest");

    public static void main(String[] args) {
        downAndUp();
        theChamberHelps();
        partByPart();
        wrongPassages();
        tooLong();
        tooDeep();
        aground();
        noWater();
        shallow();
        theOrderOfReasons();
        laterPartsAreRefused();
        voyages();
        refusedVoyages();
        askingChangesNothing();
        waterForVoyages();
        refusalsAreKept();
        c.end();
    }

    private static BargeRiver riverWith(int... lengths) {
        BargeRiver x = new BargeRiver();
        x.addReach(10, 20, 40, 50, 15);
        for (int i = 0; i < lengths.length; i++) {
            x.addBarge(0, lengths[i], 5, 10);
            if (i > 0) {
                x.couple(0, i);
            }
        }
        return x;
    }

    private static void downAndUp() {
        BargeRiver x = riverWith(50);
        c.is("28 down", 1, x.pass(0, true));
        c.is("28 in the lower reach", 1, x.reachOf(0));
        c.is("28 the chamber is empty", false, x.isFull(0));
        c.is("28 the movements", "0>10:40 10>1:40", Check.movements(x, 2));
        c.is("28 up", 1, x.pass(0, false));
        c.is("28 in the upper reach", 0, x.reachOf(0));
        c.is("28 the chamber is full", true, x.isFull(0));
        c.is("28 the movements", "0>10:40", Check.movements(x, 4));
        c.is("13 waterThrough", 40, x.waterThrough(0));
        c.is("32 nothing was refused", NoSuchElementException.class,
                Check.thrownBy(x::refusalReason));
    }

    private static void theChamberHelps() {
        BargeRiver x = riverWith(50);
        x.turn(0);
        c.is("28 down by a full chamber", 1, x.pass(0, true));
        c.is("28 it is emptied alone", "0>10:40 10>1:40", Check.movements(x, 2));
        x.turn(0);
        c.is("28 up by a full chamber", 1, x.pass(0, false));
        c.is("28 it is emptied and filled", "0>10:40 10>1:40 0>10:40", Check.movements(x, 4));
        c.is("11 isFull", true, x.isFull(0));
    }

    private static void partByPart() {
        BargeRiver x = riverWith(30, 20, 10, 45);
        c.is("28 three lockings", 3, x.pass(2, true));
        for (int b = 0; b < 4; b++) {
            c.is("28 reachOf(" + b + ")", 1, x.reachOf(b));
        }
        c.is("28 one convoy", 4, x.convoySize(3));
        c.is("28 its order", "1: 32dm 0+1+2+3", Check.written(x, 1));
        c.is("28 the movements", "0>10:40 10>1:40 0>10:40 10>1:40 0>10:40 10>1:40",
                Check.movements(x, 2));
        c.is("28 three lockings up", 3, x.pass(3, false));
        c.is("28 the movements up", "0>10:40 10>1:40 0>10:40 10>1:40 0>10:40",
                Check.movements(x, 8));
        c.is("13 waterThrough", 200, x.waterThrough(0));
    }

    private static void wrongPassages() {
        BargeRiver x = riverWith(50);
        for (int b : FAR) {
            c.refuses("28 pass(" + b + ")", NO_SUCH, x, () -> x.pass(b, true));
            c.refuses("29 voyage(" + b + ", 1)", NO_SUCH, x, () -> x.voyage(b, 1));
            c.refuses("29 voyage(0, " + b + ")", NO_SUCH, x, () -> x.voyage(0, b));
            c.refuses("30 isPossible(" + b + ", 1)", NO_SUCH, x, () -> x.isPossible(b, 1));
            c.refuses("30 isPossible(0, " + b + ")", NO_SUCH, x, () -> x.isPossible(0, b));
            c.refuses("31 waterFor(" + b + ", 1)", NO_SUCH, x, () -> x.waterFor(b, 1));
            c.refuses("31 waterFor(0, " + b + ")", NO_SUCH, x, () -> x.waterFor(0, b));
        }
        c.refuses("28 up from the reach 0", NoSuchElementException.class, x,
                () -> x.pass(0, false));
        c.refuses("29 it is there", IllegalStateException.class, x, () -> x.voyage(0, 0));
        x.pass(0, true);
        c.refuses("28 down from the last reach", NoSuchElementException.class, x,
                () -> x.pass(0, true));
        c.refuses("29 it is there", IllegalStateException.class, x, () -> x.voyage(0, 1));
    }

    private static void tooLong() {
        BargeRiver x = riverWith(30, 50, 51);
        c.refusesPassage("28 51 in 50", BargeRiver.TOO_LONG, 0, x, () -> x.pass(0, true));
        c.is("24 without it", 2, x.uncouple(2));
        c.is("28 50 in 50", 2, x.pass(0, true));
    }

    private static void tooDeep() {
        BargeRiver x = riverWith(30);
        x.addBarge(0, 30, 5, 1);
        x.couple(0, 1);
        x.buy(1, 10);
        c.is("28 draught 15 on sill 15", 2, x.pass(0, true));
        x.pass(0, false);
        x.buy(1, 1);
        c.is("21 draughtOf(1)", 16, x.draughtOf(1));
        c.refusesPassage("28 draught 16 on sill 15", BargeRiver.TOO_DEEP, 0, x,
                () -> x.pass(0, true));
    }

    private static void aground() {
        BargeRiver x = new BargeRiver();
        x.addReach(50, 60, 20, 50, 60);
        x.addBarge(0, 30, 20, 10);
        for (int week = 0; week < 9; week++) {
            x.endWeek();
        }
        c.is("7 levelOf(0)", 21, x.levelOf(0));
        c.is("30 draught 20 at level 21", true, x.isPossible(0, 1));
        x.turn(0);
        x.turn(0);
        c.refusesPassage("28 draught 20 at level 20", BargeRiver.AGROUND, 0, x,
                () -> x.pass(0, true));
        x.rain(0, 20);
        c.is("28 it may run aground while the chamber is filled", 1, x.pass(0, true));
        c.is("7 levelOf(0)", 20, x.levelOf(0));
        BargeRiver y = new BargeRiver();
        y.addReach(1, 21, 20, 50, 60);
        y.addBarge(1, 30, 20, 10);
        y.turn(0);
        y.endWeek();
        c.is("22 aground below", false, y.isAfloat(0));
        c.refusesPassage("28 although emptying the chamber would lift it", BargeRiver.AGROUND, 0, y,
                () -> y.pass(0, false));
    }

    private static void noWater() {
        BargeRiver x = new BargeRiver();
        x.addReach(50, 20, 200, 50, 15);
        x.addBarge(0, 30, 2, 10);
        x.addBarge(1, 30, 2, 10);
        for (int i = 0; i < 6; i++) {
            x.turn(0);
        }
        x.rain(0, 199);
        c.refusesPassage("28 down with 199 of 200", BargeRiver.NO_WATER, 0, x,
                () -> x.pass(0, true));
        c.refusesPassage("28 up with 199 of 200", BargeRiver.NO_WATER, 0, x,
                () -> x.pass(1, false));
        x.rain(0, 1);
        c.refusesPassage("28 up with 200 of 200", BargeRiver.SHALLOW, 0, x,
                () -> x.pass(1, false));
        c.is("28 down with 200 of 200", 1, x.pass(0, true));
        c.is("5 volumeOf(0)", 0, x.volumeOf(0));
        x.rain(0, 200);
        x.turn(0);
        x.rain(0, 199);
        c.refusesPassage("28 up by a full chamber that cannot be filled again",
                BargeRiver.NO_WATER, 0, x, () -> x.pass(1, false));
        c.is("11 it stays full", true, x.isFull(0));
        x.addBarge(0, 30, 2, 10);
        c.is("28 down by a full chamber with 199 of 200", 1, x.pass(2, true));
        c.is("5 volumeOf(0)", 199, x.volumeOf(0));
    }

    private static void shallow() {
        BargeRiver x = new BargeRiver();
        x.addReach(10, 4, 20, 50, 20);
        x.addBarge(0, 30, 5, 10);
        c.is("28 draught 5 at level 6 after the locking", true, x.isPossible(0, 1));
        x.buy(0, 1);
        c.refusesPassage("28 draught 6 at level 6 after the locking", BargeRiver.SHALLOW, 0, x,
                () -> x.pass(0, true));
        x.sell(0, 1);
        c.is("28 down", 1, x.pass(0, true));
        c.is("7 levelOf(1)", 6, x.levelOf(1));
        BargeRiver y = new BargeRiver();
        y.addReach(10, 40, 100, 50, 60);
        y.addBarge(1, 30, 20, 10);
        y.turn(0);
        y.turn(0);
        c.is("7 levelOf(0)", 25, y.levelOf(0));
        c.refusesPassage("28 level 20 after the chamber is filled", BargeRiver.SHALLOW, 0, y,
                () -> y.pass(0, false));
        y.rain(0, 20);
        c.is("28 level 21 after the chamber is filled", 1, y.pass(0, false));
    }

    private static void theOrderOfReasons() {
        BargeRiver x = new BargeRiver();
        x.addReach(10, 0, 200, 20, 10);
        x.addBarge(0, 10, 11, 10);
        x.addBarge(0, 21, 9, 10);
        x.couple(0, 1);
        c.refusesPassage("28 long before deep", BargeRiver.TOO_LONG, 0, x, () -> x.pass(0, true));
        x.uncouple(1);
        while (x.levelOf(0) > 0) {
            x.endWeek();
        }
        c.refusesPassage("28 deep before aground", BargeRiver.TOO_DEEP, 0, x,
                () -> x.pass(0, true));
        BargeRiver y = new BargeRiver();
        y.addReach(10, 0, 200, 20, 10);
        y.addBarge(0, 10, 5, 10);
        while (y.levelOf(0) > 5) {
            y.endWeek();
        }
        c.refusesPassage("28 aground before no water", BargeRiver.AGROUND, 0, y,
                () -> y.pass(0, true));
        y.rain(0, 20);
        c.refusesPassage("28 no water before shallow", BargeRiver.NO_WATER, 0, y,
                () -> y.pass(0, true));
    }

    private static void laterPartsAreRefused() {
        BargeRiver x = riverWith(50, 50, 50, 50);
        x.buy(2, 60);
        c.is("21 draughtOf(2)", 11, x.draughtOf(2));
        for (int i = 0; i < 15; i++) {
            x.endWeek();
        }
        c.is("5 volumeOf(0)", 300, x.volumeOf(0));
        c.refusesPassage("28 the third part aground", BargeRiver.AGROUND, 0, x,
                () -> x.pass(0, true));
        x.sell(2, 60);
        c.is("28 without cargo", 4, x.pass(0, true));
        BargeRiver y = new BargeRiver();
        y.addReach(50, 60, 200, 50, 60);
        for (int b = 0; b < 4; b++) {
            y.addBarge(1, 30, 2, 10);
        }
        y.couple(0, 1);
        y.couple(0, 2);
        y.couple(0, 3);
        c.refusesPassage("28 the third part would be aground above", BargeRiver.SHALLOW, 0, y,
                () -> y.pass(0, false));
        y.rain(0, 199);
        c.refusesPassage("28 the fourth part has no water", BargeRiver.NO_WATER, 0, y,
                () -> y.pass(0, false));
        y.uncouple(3);
        c.is("28 three parts", 3, y.pass(0, false));
    }

    private static BargeRiver longRiver() {
        BargeRiver x = new BargeRiver();
        x.addReach(10, 20, 40, 50, 15);
        x.addReach(10, 20, 30, 40, 14);
        x.addReach(10, 20, 20, 30, 13);
        x.addBarge(0, 25, 5, 10);
        x.addBarge(0, 20, 5, 10);
        x.couple(0, 1);
        return x;
    }

    private static void voyages() {
        BargeRiver x = longRiver();
        c.is("29 down through three locks", 5, x.voyage(1, 3));
        c.is("19 reachOf(0)", 3, x.reachOf(0));
        c.is("19 reachOf(1)", 3, x.reachOf(1));
        c.is("29 the movements", "0>10:40 10>1:40 1>11:30 11>2:30 1>11:30 11>2:30"
                + " 2>12:20 12>3:20 2>12:20 12>3:20", Check.movements(x, 4));
        c.is("29 up through two locks", 4, x.voyage(0, 1));
        c.is("29 the movements", "2>12:20 12>3:20 2>12:20 1>11:30 11>2:30 1>11:30",
                Check.movements(x, 14));
        c.is("29 down through one lock", 2, x.voyage(0, 2));
        x.rain(1, 100);
        c.is("29 up through all above", 3, x.voyage(0, 0));
    }

    private static void refusedVoyages() {
        BargeRiver x = longRiver();
        x.buy(1, 85);
        c.is("21 draughtOf(1)", 14, x.draughtOf(1));
        c.refusesPassage("29 too deep for the lock 2", BargeRiver.TOO_DEEP, 2, x,
                () -> x.voyage(0, 3));
        c.is("30 as far as the reach 2", true, x.isPossible(0, 2));
        c.is("30 not so far as the reach 3", false, x.isPossible(0, 3));
        x.sell(1, 85);
        x.voyage(0, 3);
        while (x.levelOf(1) > 5) {
            x.turn(1);
        }
        c.refusesPassage("29 the lock 1 is refused on the way up", BargeRiver.SHALLOW, 1, x,
                () -> x.voyage(0, 0));
        c.is("30 as far as the reach 2", true, x.isPossible(0, 2));
    }

    private static void askingChangesNothing() {
        BargeRiver x = longRiver();
        x.addReach(10, 0, 200, 30, 15);
        String before = Check.state(x);
        c.is("30 it is there", true, x.isPossible(0, 0));
        c.is("30 three locks", true, x.isPossible(1, 3));
        c.is("31 three locks", 140, x.waterFor(1, 3));
        c.is("27 partsFor", 2, x.partsFor(0, 2));
        c.is("30 no water for the lock 3", false, x.isPossible(0, 4));
        c.refuses("31 no water for the lock 3", CANNOT, x, () -> x.waterFor(0, 4));
        c.is("41 bestReach", 0, x.bestReach(0));
        c.is("30 nothing has changed", before, Check.state(x));
        c.is("32 nothing was refused", NoSuchElementException.class,
                Check.thrownBy(x::refusalReason));
        BargeRiver y = new BargeRiver();
        y.addBarge(0, 30, 5, 10);
        while (y.levelOf(0) > 0) {
            y.endWeek();
        }
        c.is("30 it is there, even aground", true, y.isPossible(0, 0));
        c.is("31 it is there, even aground", 0, y.waterFor(0, 0));
    }

    private static void waterForVoyages() {
        BargeRiver x = longRiver();
        c.is("31 it is there", 0, x.waterFor(0, 0));
        c.is("31 one lock", 40, x.waterFor(0, 1));
        c.is("31 two locks", 100, x.waterFor(0, 2));
        x.turn(0);
        c.is("31 a full chamber is emptied", 40, x.waterFor(0, 1));
        x.voyage(0, 2);
        c.is("31 up by empty chambers", 30, x.waterFor(0, 0));
        x.turn(1);
        c.is("31 up by a full chamber", 60, x.waterFor(0, 0));
        x.rain(2, 5000);
        c.is("31 what overflows is not counted", 60, x.waterFor(0, 0));
    }

    private static void refusalsAreKept() {
        BargeRiver x = new BargeRiver();
        x.addReach(10, 20, 40, 50, 15);
        x.addReach(10, 20, 200, 20, 15);
        x.addBarge(0, 30, 5, 10);
        c.refusesPassage("32 too long", BargeRiver.TOO_LONG, 1, x, () -> x.voyage(0, 2));
        x.pass(0, true);
        c.is("32 kept after a passage", BargeRiver.TOO_LONG, x.refusalReason());
        c.is("33 kept after a passage", 1, x.refusalLock());
        x.turn(1);
        x.turn(1);
        c.refuses("12 a turn is no passage", CANNOT, x, () -> x.turn(1));
        c.refuses("31 a question is no passage", CANNOT, x, () -> x.waterFor(0, 2));
        c.is("30 nor is this one", false, x.isPossible(0, 2));
        while (x.levelOf(0) > 6) {
            x.turn(0);
        }
        c.refusesPassage("32 the last refusal", BargeRiver.SHALLOW, 0, x, () -> x.pass(0, false));
        x.rain(0, 600);
        x.pass(0, false);
        c.refuses("28 no lock is no refusal", NoSuchElementException.class, x,
                () -> x.pass(0, false));
    }
}
