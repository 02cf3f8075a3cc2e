import java.util.NoSuchElementException;

/** The promises in their order: the boundary cases that they name, beside those of the terms. */
public final class PromiseEdgeTest {
    private static final Class<IndexOutOfBoundsException> NO_SUCH = IndexOutOfBoundsException.class;
    private static final Class<IllegalArgumentException> BAD = IllegalArgumentException.class;
    private static final Class<IllegalStateException> STATE = IllegalStateException.class;
    private static final Class<UnsupportedOperationException> CANNOT =
            UnsupportedOperationException.class;
    private static final Class<NoSuchElementException> NONE = NoSuchElementException.class;
    private static final Check c = new Check("PromiseEdgeTest");

    private interface Asked {
        void with(BargeRiver x, int number);
    }

    private static final class Question {
        final String name;
        final Asked asked;

        Question(String name, Asked asked) {
            this.name = name;
            this.asked = asked;
        }
    }

    private static final Question[] OF_REACHES = {
        new Question("4 areaOf", (x, r) -> x.areaOf(r)),
        new Question("5 volumeOf", (x, r) -> x.volumeOf(r)),
        new Question("6 volumeBySteps", (x, r) -> x.volumeBySteps(r)),
        new Question("7 levelOf", (x, r) -> x.levelOf(r)),
        new Question("14 rain", (x, r) -> x.rain(r, 1)),
        new Question("17 addBarge", (x, r) -> x.addBarge(r, 5, 2, 1)),
        new Question("29 voyage", (x, r) -> x.voyage(0, r)),
        new Question("30 isPossible", (x, r) -> x.isPossible(0, r)),
        new Question("31 waterFor", (x, r) -> x.waterFor(0, r)),
        new Question("34 priceIn", (x, r) -> x.priceIn(r)),
        new Question("40 worthIn", (x, r) -> x.worthIn(0, r)),
        new Question("52 writeReach", (x, r) -> x.writeReach(r)),
    };
    private static final Question[] OF_LOCKS = {
        new Question("8 lockfulOf", (x, k) -> x.lockfulOf(k)),
        new Question("9 lengthOf", (x, k) -> x.lengthOf(k)),
        new Question("10 sillOf", (x, k) -> x.sillOf(k)),
        new Question("11 isFull", (x, k) -> x.isFull(k)),
        new Question("12 turn", (x, k) -> x.turn(k)),
        new Question("13 waterThrough", (x, k) -> x.waterThrough(k)),
        new Question("27 partsFor", (x, k) -> x.partsFor(0, k)),
    };
    private static final Question[] OF_BARGES = {
        new Question("19 reachOf", (x, b) -> x.reachOf(b)),
        new Question("20 cargoOf", (x, b) -> x.cargoOf(b)),
        new Question("21 draughtOf", (x, b) -> x.draughtOf(b)),
        new Question("22 isAfloat", (x, b) -> x.isAfloat(b)),
        new Question("25 convoySize", (x, b) -> x.convoySize(b)),
        new Question("26 convoyAt", (x, b) -> x.convoyAt(b, 0)),
        new Question("23 couple behind 0", (x, b) -> x.couple(0, b)),
        new Question("24 uncouple", (x, b) -> x.uncouple(b)),
        new Question("23 couple ahead of 0", (x, b) -> x.couple(b, 0)),
        new Question("27 partsFor", (x, b) -> x.partsFor(b, 0)),
        new Question("30 isPossible", (x, b) -> x.isPossible(b, 1)),
        new Question("31 waterFor", (x, b) -> x.waterFor(b, 1)),
        new Question("36 buy", (x, b) -> x.buy(b, 1)),
        new Question("40 worthIn", (x, b) -> x.worthIn(b, 0)),
        new Question("41 bestReach", (x, b) -> x.bestReach(b)),
        new Question("37 sell", (x, b) -> x.sell(b, 1)),
        new Question("38 sellToDraught", (x, b) -> x.sellToDraught(b, 5)),
        new Question("39 greatestLoad", (x, b) -> x.greatestLoad(b)),
        new Question("28 pass", (x, b) -> x.pass(b, true)),
        new Question("29 voyage", (x, b) -> x.voyage(b, 0)),
    };
    private static final Question[] OF_MOVEMENTS = {
        new Question("47 movementFrom", (x, m) -> x.movementFrom(m)),
        new Question("48 movementTo", (x, m) -> x.movementTo(m)),
        new Question("49 movementVolume", (x, m) -> x.movementVolume(m)),
    };

    public static void main(String[] args) {
        noSuchReach();
        noSuchLock();
        noSuchBarge();
        noSuchMovement();
        argumentsOfAReach();
        aRefusedReachLeavesNothing();
        theSumOfRain();
        weeksAtTheEdges();
        argumentsOfABarge();
        aRefusedBargeLeavesNothing();
        splitAtEachPlace();
        placesInConvoys();
        atTheEndsOfTheRiver();
        voyagesThatAreRefusedAtEachLock();
        aVoyageMovesWaterAsItGoes();
        whereItIs();
        eachReasonIsStored();
        buyingAtTheEdges();
        sellingAtTheEdges();
        draughtsToSellTo();
        theMostOfAll();
        theBestOfSeveral();
        whereTheBestReachIsRefused();
        theCargoOfTheOneBarge();
        loadsOfABargeAground();
        meanLevelsAtTheEdges();
        linesAtTheEdges();
        theFirstDocumentedIsThrown();
        allPromisedCalls();
        c.end();
    }

    private static void refusesAll(Question[] questions, BargeRiver x, int... numbers) {
        for (Question q : questions) {
            for (int n : numbers) {
                c.refuses(q.name + " " + n, NO_SUCH, x, () -> q.asked.with(x, n));
            }
        }
    }

    private static void answersAll(Question[] questions, BargeRiver x, int number) {
        for (Question q : questions) {
            c.is(q.name + " " + number, "no exception",
                    Check.thrownBy(() -> q.asked.with(x, number)));
        }
    }

    private static void weeks(BargeRiver x, int weeks) {
        for (int week = 0; week < weeks; week++) {
            x.endWeek();
        }
    }

    private static void noSuchReach() {
        BargeRiver x = new BargeRiver();
        x.addBarge(0, 5, 2, 1);
        for (int reaches = 1; reaches <= 6; reaches++) {
            refusesAll(OF_REACHES, x, -1, reaches, Integer.MIN_VALUE, Integer.MAX_VALUE);
            if (reaches < 6) {
                x.addReach(50, 60, 1, 80, 60);
                answersAll(OF_REACHES, x, reaches);
            }
        }
    }

    private static void noSuchLock() {
        BargeRiver x = new BargeRiver();
        x.addBarge(0, 5, 2, 1);
        for (int locks = 0; locks <= 5; locks++) {
            refusesAll(OF_LOCKS, x, -1, locks, 10, Integer.MIN_VALUE, Integer.MAX_VALUE);
            if (locks < 5) {
                x.addReach(50, 60, 1, 80, 60);
                answersAll(OF_LOCKS, x, locks);
            }
        }
    }

    private static void noSuchBarge() {
        BargeRiver x = new BargeRiver();
        x.addReach(50, 60, 1, 80, 60);
        refusesAll(OF_BARGES, x, -1, 0, 1, Integer.MIN_VALUE, Integer.MAX_VALUE);
        x.addBarge(0, 5, 2, 1);
        for (int barges = 1; barges <= 8; barges++) {
            refusesAll(OF_BARGES, x, -1, barges, Integer.MIN_VALUE, Integer.MAX_VALUE);
            if (barges < 8) {
                x.addBarge(0, 5, 2, 1);
                answersAll(OF_BARGES, x, barges);
                x.uncouple(0);
            }
        }
    }

    private static void noSuchMovement() {
        BargeRiver x = new BargeRiver();
        for (int movements = 1; movements < 300; movements++) {
            int next = movements;
            for (Question q : OF_MOVEMENTS) {
                c.is(q.name + " " + next, NO_SUCH, Check.thrownBy(() -> q.asked.with(x, next)));
            }
            x.rain(0, 1);
            answersAll(OF_MOVEMENTS, x, next);
        }
        refusesAll(OF_MOVEMENTS, x, -1, 300, Integer.MIN_VALUE, Integer.MAX_VALUE);
    }

    private static void argumentsOfAReach() {
        int[] least = {1, 0, 1, 10, 5};
        int[] most = {50, 60, 200, 200, 60};
        for (int i = 0; i < 5; i++) {
            BargeRiver x = new BargeRiver();
            for (int wrong : new int[] {least[i] - 1, most[i] + 1, Integer.MIN_VALUE,
                Integer.MAX_VALUE, 65536, least[i] + (1 << 31), most[i] - 256}) {
                int[] a = {10, 20, 40, 50, 15};
                a[i] = wrong;
                c.refuses("2 the argument " + i + " is " + wrong, BAD, x,
                        () -> x.addReach(a[0], a[1], a[2], a[3], a[4]));
            }
            for (int right : new int[] {least[i], most[i]}) {
                int[] a = {10, 20, 40, 50, 15};
                a[i] = right;
                int r = x.addReach(a[0], a[1], a[2], a[3], a[4]);
                c.is("2 the argument " + i + " is " + right, right, new int[] {x.areaOf(r),
                    x.levelOf(r), x.lockfulOf(r - 1), x.lengthOf(r - 1), x.sillOf(r - 1)}[i]);
            }
        }
    }

    private static void aRefusedReachLeavesNothing() {
        BargeRiver x = new BargeRiver();
        x.addReach(11, 21, 41, 51, 16);
        c.refuses("2 a wrong sill", BAD, x, () -> x.addReach(12, 22, 42, 52, 61));
        c.is("2 the next number", 2, x.addReach(13, 23, 43, 53, 18));
        c.is("4 areaOf(2)", 13, x.areaOf(2));
        c.is("8 lockfulOf(1)", 43, x.lockfulOf(1));
        c.is("9 lengthOf(1)", 53, x.lengthOf(1));
        c.is("10 sillOf(1)", 18, x.sillOf(1));
        c.is("11 isFull(1)", false, x.isFull(1));
        x.endWeek();
        c.is("34 its level was 23", 110, x.priceIn(2));
    }

    private static void theSumOfRain() {
        BargeRiver x = new BargeRiver();
        c.is("14 the least rain", 0, x.rain(0, 1));
        c.is("14 the most rain", 4401, x.rain(0, 5000));
        for (int wrong : new int[] {0, -1, 5001, -5000, Integer.MIN_VALUE, Integer.MAX_VALUE}) {
            c.refuses("14 rain(0, " + wrong + ")", BAD, x, () -> x.rain(0, wrong));
        }
        for (int reach = 1; reach < 6; reach++) {
            x.addReach(50, 60, 1, 10, 5);
        }
        for (int reach = 0; reach < 6; reach++) {
            c.is("14 all of it from the full reach " + reach, 5000, x.rain(reach, 5000));
        }
        weeks(x, 1);
        c.is("14 five reaches take 250, and 20", 4730, x.rain(0, 5000));
        c.is("43 seaTotal", 4401 + 6 * 5000 + 4730, x.seaTotal());
        c.is("51 isBalanced", true, x.isBalanced());
    }

    private static void weeksAtTheEdges() {
        BargeRiver x = new BargeRiver();
        c.is("16 none at first", 0, x.weekCount());
        for (int reach = 1; reach < 6; reach++) {
            x.addReach(1, 60, 1, 10, 5);
        }
        c.is("15 all prices are higher", 6, x.endWeek());
        c.is("16 one", 1, x.weekCount());
        BargeRiver y = new BargeRiver();
        y.addReach(50, 0, 1, 10, 5);
        weeks(y, 30);
        c.is("15 all is dry", 0, y.endWeek());
        c.is("16 dry weeks count", 31, y.weekCount());
        c.is("44 airTotal", 600, y.airTotal());
        c.is("45 heldTotal", 0, y.heldTotal());
        c.is("50 meanLevel", 0.0, y.meanLevel());
        c.is("51 isBalanced", true, y.isBalanced());
        c.is("52 the dry reach", "0: 0dm", Check.written(y, 0));
        BargeRiver z = new BargeRiver();
        z.addReach(20, 30, 1, 10, 5);
        z.rain(0, 40);
        c.is("15 one is higher, one is lower", 1, z.endWeek());
        c.is("34 priceIn(0)", 90, z.priceIn(0));
        c.is("34 priceIn(1)", 110, z.priceIn(1));
        z.turn(0);
        z.rain(0, 21);
        z.rain(1, 20);
        c.is("15 what is in a full chamber stays there", 0, z.endWeek());
        c.is("45 heldTotal", z.volumeOf(0) + z.volumeOf(1) + 1, z.heldTotal());
    }

    private static void argumentsOfABarge() {
        int[] least = {5, 2, 1};
        int[] most = {80, 20, 20};
        for (int i = 0; i < 3; i++) {
            BargeRiver x = new BargeRiver();
            x.addReach(50, 60, 1, 80, 60);
            for (int wrong : new int[] {least[i] - 1, most[i] + 1, Integer.MIN_VALUE,
                Integer.MAX_VALUE, 65536, least[i] + (1 << 31), most[i] - 256}) {
                int[] a = {40, 5, 10};
                a[i] = wrong;
                c.refuses("17 the argument " + i + " is " + wrong, BAD, x,
                        () -> x.addBarge(1, a[0], a[1], a[2]));
            }
            for (int right : new int[] {least[i], most[i]}) {
                int[] a = {40, 5, 10};
                a[i] = right;
                int b = x.addBarge(1, a[0], a[1], a[2]);
                c.is("17 the argument " + i + " is " + right, a[1], x.draughtOf(b));
                c.is("39 its greatest load", (59 - a[1]) * a[2], x.greatestLoad(b));
                c.is("27 its length fits", 1, x.partsFor(b, 0));
            }
        }
    }

    private static void aRefusedBargeLeavesNothing() {
        BargeRiver x = new BargeRiver();
        x.addReach(10, 5, 1, 10, 5);
        x.addBarge(0, 7, 2, 1);
        c.refuses("17 draught 5 at level 5", CANNOT, x, () -> x.addBarge(1, 5, 5, 1));
        c.refuses("17 too long", BAD, x, () -> x.addBarge(1, 81, 5, 1));
        c.is("17 the next number, and draught 4 at level 5", 1, x.addBarge(1, 5, 4, 3));
        c.is("19 reachOf(1)", 1, x.reachOf(1));
        c.is("21 draughtOf(1)", 4, x.draughtOf(1));
        c.is("25 convoySize(1)", 1, x.convoySize(1));
        c.refuses("17 draught 20 at level 5", CANNOT, x, () -> x.addBarge(1, 5, 20, 1));
        c.refuses("23 none of them was coupled", NO_SUCH, x, () -> x.couple(1, 2));
    }

    private static void splitAtEachPlace() {
        for (int place = 0; place < 4; place++) {
            BargeRiver x = new BargeRiver();
            for (int barge = 0; barge < 4; barge++) {
                x.addBarge(0, 5, 2, 1);
            }
            c.refuses("24 a convoy of one", STATE, x, () -> x.uncouple(2));
            x.couple(2, 0);
            x.couple(2, 3);
            x.couple(2, 1);
            int[] order = {2, 0, 3, 1};
            int split = order[place];
            if (place == 0) {
                c.refuses("24 the first of four", STATE, x, () -> x.uncouple(split));
                continue;
            }
            c.is("24 at the place " + place, place, x.uncouple(split));
            c.refuses("24 it is the first one now", STATE, x, () -> x.uncouple(split));
            c.refuses("24 the front's first one is still", STATE, x, () -> x.uncouple(2));
            c.is("25 the front", place, x.convoySize(2));
            c.is("25 the back", 4 - place, x.convoySize(1));
            c.is("26 the back's first one", split, x.convoyAt(1, 0));
            c.is("26 the front's last one", order[place - 1], x.convoyAt(2, place - 1));
            c.is("23 coupled the other way", 4, x.couple(1, 2));
            c.is("26 the first one", split, x.convoyAt(2, 0));
        }
    }

    private static void placesInConvoys() {
        BargeRiver x = new BargeRiver();
        for (int size = 1; size <= 4; size++) {
            x.addBarge(0, 5, 2, 1);
            if (size > 1) {
                c.is("23 so many", size, x.couple(size - 1, 0));
            }
            c.is("26 the first place of " + size, size - 1, x.convoyAt(0, 0));
            c.is("26 the last place of " + size, 0, x.convoyAt(0, size - 1));
            for (int place : new int[] {-1, size, Integer.MIN_VALUE, Integer.MAX_VALUE}) {
                c.refuses("26 the place " + place + " of " + size, NONE, x,
                        () -> x.convoyAt(0, place));
            }
        }
    }

    private static void atTheEndsOfTheRiver() {
        BargeRiver x = new BargeRiver();
        x.addBarge(0, 5, 2, 1);
        c.refuses("28 no lock above", NONE, x, () -> x.pass(0, false));
        c.refuses("28 no lock below", NONE, x, () -> x.pass(0, true));
        for (int reach = 1; reach < 6; reach++) {
            x.addReach(50, 60, 1, 80, 60);
        }
        for (int reach = 1; reach < 6; reach++) {
            c.is("28 down", 1, x.pass(0, true));
        }
        c.refuses("28 no lock below the reach 5", NONE, x, () -> x.pass(0, true));
        for (int reach = 1; reach < 6; reach++) {
            c.is("28 up", 1, x.pass(0, false));
        }
        c.refuses("28 no lock above the reach 0", NONE, x, () -> x.pass(0, false));
        c.is("29 down through all", 5, x.voyage(0, 5));
        c.is("29 up through all", 5, x.voyage(0, 0));
        c.refuses("32 nothing was refused", NONE, x, x::refusalReason);
        c.refuses("33 nothing was refused", NONE, x, x::refusalLock);
    }

    private static void voyagesThatAreRefusedAtEachLock() {
        for (int narrow = 0; narrow < 5; narrow++) {
            BargeRiver x = new BargeRiver();
            for (int lock = 0; lock < 5; lock++) {
                x.addReach(50, 60, 3, lock == narrow ? 29 : 30, 60);
            }
            x.addBarge(0, 30, 2, 1);
            x.addBarge(5, 30, 2, 1);
            c.refusesPassage("29 down", BargeRiver.TOO_LONG, narrow, x, () -> x.voyage(0, 5));
            c.refusesPassage("29 up", BargeRiver.TOO_LONG, narrow, x, () -> x.voyage(1, 0));
            for (int reach = 0; reach < 6; reach++) {
                c.is("30 down to " + reach, reach <= narrow, x.isPossible(0, reach));
                c.is("30 up to " + reach, reach > narrow, x.isPossible(1, reach));
            }
            c.refuses("31 down", CANNOT, x, () -> x.waterFor(0, 5));
            c.refuses("31 up", CANNOT, x, () -> x.waterFor(1, 0));
            c.is("31 down as far as possible", 3 * narrow, x.waterFor(0, narrow));
            c.is("31 up as far as possible", 0, x.waterFor(1, narrow + 1));
        }
    }

    private static void aVoyageMovesWaterAsItGoes() {
        BargeRiver x = new BargeRiver();
        x.addReach(10, 3, 40, 50, 60);
        x.addReach(50, 60, 70, 50, 60);
        x.addBarge(0, 30, 2, 1);
        x.addBarge(1, 30, 2, 1);
        c.refusesPassage("29 30 of 70", BargeRiver.NO_WATER, 1, x, () -> x.voyage(1, 2));
        c.is("30 the lock 0 brings 40 more", true, x.isPossible(0, 2));
        c.is("31 and so this is possible", 110, x.waterFor(0, 2));
        c.is("29 and is done", 2, x.voyage(0, 2));
        c.is("5 all of it is used", 0, x.volumeOf(1));
        c.refusesPassage("29 the way back", BargeRiver.NO_WATER, 1, x, () -> x.voyage(0, 0));
        BargeRiver y = new BargeRiver();
        y.addReach(10, 5, 40, 50, 60);
        y.addReach(50, 60, 20, 50, 60);
        y.addBarge(2, 30, 2, 1);
        c.is("29 draught 2 at level 3 after the chamber is filled", 2, y.voyage(0, 0));
        y.voyage(0, 2);
        c.is("31 two empty chambers", 0, y.waterFor(0, 0));
        y.turn(0);
        c.is("31 a full chamber and an empty one", 40, y.waterFor(0, 0));
    }

    private static void whereItIs() {
        BargeRiver x = new BargeRiver();
        x.addReach(50, 0, 1, 50, 60);
        x.addBarge(0, 51, 2, 1);
        weeks(x, 30);
        c.is("30 aground and too long", true, x.isPossible(0, 0));
        c.is("31 aground and too long", 0, x.waterFor(0, 0));
        c.is("41 aground and too long", 0, x.bestReach(0));
        c.refuses("29 aground and too long", STATE, x, () -> x.voyage(0, 0));
        c.refuses("32 no passage was refused", NONE, x, x::refusalReason);
    }

    private static void eachReasonIsStored() {
        BargeRiver x = new BargeRiver();
        x.addReach(10, 60, 200, 50, 15);
        x.addReach(50, 0, 1, 20, 5);
        x.addBarge(1, 21, 2, 1);
        x.addBarge(1, 20, 6, 1);
        x.addBarge(1, 20, 2, 1);
        c.refusesPassage("32 too long", BargeRiver.TOO_LONG, 1, x, () -> x.pass(0, true));
        c.refusesPassage("32 too deep", BargeRiver.TOO_DEEP, 1, x, () -> x.pass(1, true));
        c.refusesPassage("32 shallow", BargeRiver.SHALLOW, 1, x, () -> x.pass(2, true));
        c.is("28 the refused barges stay", "1: 60dm 0 1 2", Check.written(x, 1));
        weeks(x, 21);
        c.refusesPassage("32 no water", BargeRiver.NO_WATER, 0, x, () -> x.pass(2, false));
        weeks(x, 37);
        c.refusesPassage("32 aground", BargeRiver.AGROUND, 1, x, () -> x.voyage(2, 2));
        x.endWeek();
        x.rain(1, 500);
        c.refuses("31 a question", CANNOT, x, () -> x.waterFor(0, 2));
        c.refuses("27 parts", CANNOT, x, () -> x.partsFor(0, 1));
        c.refuses("12 a turn", CANNOT, x, () -> x.turn(0));
        c.refuses("36 a load", CANNOT, x, () -> x.buy(0, 999));
        c.refuses("29 where it is", STATE, x, () -> x.voyage(0, 1));
        c.is("32 the last one is kept", BargeRiver.AGROUND, x.refusalReason());
        c.is("33 the last one is kept", 1, x.refusalLock());
    }

    /** The reach 1 is full and a ton costs 9 there, after 19 weeks. */
    private static BargeRiver whereTonsAreCheap() {
        BargeRiver x = new BargeRiver();
        x.addReach(1, 0, 1, 80, 60);
        for (int week = 0; week < 19; week++) {
            x.rain(1, 2);
            x.endWeek();
        }
        x.rain(1, 60);
        x.addBarge(1, 30, 2, 20);
        return x;
    }

    private static void buyingAtTheEdges() {
        BargeRiver x = whereTonsAreCheap();
        c.is("34 a ton", 9, x.priceIn(1));
        for (int tons : new int[] {0, -1, 1000, Integer.MIN_VALUE, Integer.MAX_VALUE}) {
            c.refuses("36 buy(0, " + tons + ")", BAD, x, () -> x.buy(0, tons));
        }
        c.is("39 more than one call can buy", 1140, x.greatestLoad(0));
        c.is("36 the most tons", 10000L - 8991, x.buy(0, 999));
        c.is("21 their draught", 52, x.draughtOf(0));
        c.is("36 the least tons", 1000L, x.buy(0, 1));
        for (int tons : new int[] {0, -1, 1000, Integer.MIN_VALUE, Integer.MAX_VALUE}) {
            c.refuses("36 with cargo, buy(0, " + tons + ")", BAD, x, () -> x.buy(0, tons));
        }
        c.refuses("36 draught 60 at level 60", CANNOT, x, () -> x.buy(0, 141));
        x.addBarge(1, 30, 2, 20);
        c.refuses("36 112 tons are 1008", STATE, x, () -> x.buy(1, 112));
        c.is("36 111 tons are 999", 1L, x.buy(1, 111));
        c.refuses("36 1 is left", STATE, x, () -> x.buy(1, 1));
        c.is("37 the most tons", 8992L, x.sell(0, 999));
        c.is("36 draught 59 at level 60", 19L, x.buy(0, 997));
        BargeRiver y = new BargeRiver();
        y.addBarge(0, 30, 2, 20);
        c.is("36 all the money", 0L, y.buy(0, 100));
        c.refuses("36 none is left", STATE, y, () -> y.buy(0, 1));
    }

    private static void sellingAtTheEdges() {
        BargeRiver x = whereTonsAreCheap();
        c.refuses("37 without cargo", STATE, x, () -> x.sell(0, 1));
        c.refuses("37 the most tons without cargo", STATE, x, () -> x.sell(0, 999));
        x.buy(0, 999);
        x.buy(0, 1);
        for (int tons : new int[] {0, -1, 1000, Integer.MIN_VALUE, Integer.MAX_VALUE}) {
            c.refuses("37 sell(0, " + tons + ")", BAD, x, () -> x.sell(0, tons));
        }
        c.is("37 the most tons", 9991L, x.sell(0, 999));
        c.refuses("37 2 tons of 1", STATE, x, () -> x.sell(0, 2));
        c.is("37 the last ton", 10000L, x.sell(0, 1));
        c.refuses("37 no ton is left", STATE, x, () -> x.sell(0, 1));
        weeks(x, 60);
        c.is("7 no water", 0, x.levelOf(1));
        c.refuses("36 without water", CANNOT, x, () -> x.buy(0, 1));
    }

    private static void draughtsToSellTo() {
        BargeRiver x = whereTonsAreCheap();
        for (int draught : new int[] {0, -1, 61, Integer.MIN_VALUE, Integer.MAX_VALUE}) {
            c.refuses("38 to " + draught, BAD, x, () -> x.sellToDraught(0, draught));
        }
        c.refuses("38 to 1, empty 2", STATE, x, () -> x.sellToDraught(0, 1));
        c.is("38 empty, to 2", 0, x.sellToDraught(0, 2));
        x.buy(0, 999);
        x.buy(0, 111);
        c.is("21 its draught", 58, x.draughtOf(0));
        c.is("38 to the greatest", 0, x.sellToDraught(0, 60));
        c.is("38 to what it is", 0, x.sellToDraught(0, 58));
        c.is("35 nothing was sold", 10L, x.money());
        c.is("38 to one less", 10, x.sellToDraught(0, 57));
        c.is("38 to one less again", 20, x.sellToDraught(0, 56));
        c.refuses("38 with cargo to 1", STATE, x, () -> x.sellToDraught(0, 1));
        c.is("38 more than 999 tons, to 2", 1080, x.sellToDraught(0, 2));
        c.is("20 no cargo", 0, x.cargoOf(0));
        c.is("35 all the money", 10000L, x.money());
        BargeRiver y = new BargeRiver();
        y.addBarge(0, 30, 20, 1);
        y.buy(0, 3);
        weeks(y, 30);
        c.refuses("38 to 19, empty 20", STATE, y, () -> y.sellToDraught(0, 19));
        c.is("38 aground, to 20", 3, y.sellToDraught(0, 20));
    }

    private static void theMostOfAll() {
        BargeRiver x = new BargeRiver();
        x.addReach(1, 60, 1, 80, 60);
        x.addReach(1, 0, 1, 80, 60);
        for (int week = 0; week < 48; week++) {
            x.rain(2, 2);
            x.endWeek();
        }
        c.is("34 the highest price", 9999, x.priceIn(1));
        c.is("34 the lowest price", 1, x.priceIn(2));
        x.rain(2, 60);
        x.addBarge(2, 5, 2, 20);
        x.buy(0, 999);
        c.is("36 the greatest load", 8860L, x.buy(0, 141));
        c.is("39 nothing more", 0, x.greatestLoad(0));
        c.is("21 the greatest draught", 59, x.draughtOf(0));
        c.is("40 the greatest worth", 11398860, x.worthIn(0, 1));
        c.is("40 the least worth", 1140, x.worthIn(0, 2));
        c.is("41 the dearest is too shallow", 2, x.bestReach(0));
        x.rain(1, 48);
        c.is("41 it is at level 59 after the locking", 2, x.bestReach(0));
        c.is("38 a decimetre", 20, x.sellToDraught(0, 58));
        c.is("41 and now it is possible", 1, x.bestReach(0));
        c.is("29 up", 1, x.voyage(0, 1));
        c.is("38 all of it", 1120, x.sellToDraught(0, 2));
        c.is("35 the money", 8880L + 1120 * 9999, x.money());
    }

    private static void theBestOfSeveral() {
        BargeRiver x = new BargeRiver();
        for (int reach = 1; reach < 6; reach++) {
            x.addReach(10, 60, 1, 80, 60);
        }
        for (int reach = 0; reach < 6; reach++) {
            int barge = x.addBarge(reach, 5, 2, 10);
            c.is("41 without cargo from " + reach, 0, x.bestReach(barge));
            x.buy(barge, 1);
            c.is("41 all the same from " + reach, 0, x.bestReach(barge));
        }
        x.rain(0, 900);
        x.endWeek();
        x.rain(0, 20);
        for (int reach = 1; reach < 6; reach++) {
            x.rain(reach, reach == 2 || reach == 4 ? 9 : 10);
        }
        x.endWeek();
        c.is("34 the two dearest", x.priceIn(2), x.priceIn(4));
        c.is("34 dearer than others", true, x.priceIn(2) > x.priceIn(5));
        for (int barge = 0; barge < 6; barge++) {
            c.is("41 the first of the two from " + barge, 2, x.bestReach(barge));
        }
    }

    private static void whereTheBestReachIsRefused() {
        BargeRiver x = new BargeRiver();
        x.addReach(10, 20, 1, 10, 60);
        x.addReach(10, 20, 1, 80, 60);
        x.addBarge(1, 11, 2, 10);
        x.buy(0, 1);
        x.rain(1, 20);
        c.is("41 the same price in all", 1, x.bestReach(0));
        x.endWeek();
        c.is("34 the dearest", 110, x.priceIn(0));
        c.is("34 as dear", 110, x.priceIn(2));
        c.is("41 the first one is refused", 2, x.bestReach(0));
        c.refuses("32 a question is no passage", NONE, x, x::refusalReason);
    }

    private static void theCargoOfTheOneBarge() {
        BargeRiver x = new BargeRiver();
        x.addReach(10, 20, 1, 80, 60);
        x.addBarge(0, 5, 2, 10);
        x.addBarge(0, 5, 2, 10);
        x.couple(0, 1);
        x.buy(1, 3);
        x.rain(0, 20);
        x.endWeek();
        c.is("34 the dearer one", 110, x.priceIn(1));
        c.is("40 the first one has no cargo", 0, x.worthIn(0, 1));
        c.is("40 the second one has 3 tons", 330, x.worthIn(1, 1));
        c.is("41 without cargo", 0, x.bestReach(0));
        c.is("41 with 3 tons", 1, x.bestReach(1));
    }

    private static void loadsOfABargeAground() {
        BargeRiver x = new BargeRiver();
        x.addReach(10, 6, 1, 80, 60);
        x.addBarge(1, 5, 4, 10);
        x.addBarge(1, 5, 5, 10);
        x.buy(0, 1);
        c.is("39 9 of 10 tons in the decimetre", 9, x.greatestLoad(0));
        c.is("39 afloat without room", 0, x.greatestLoad(1));
        weeks(x, 1);
        c.is("39 aground by its cargo", 0, x.greatestLoad(0));
        c.is("39 aground without cargo", 0, x.greatestLoad(1));
        c.refuses("36 aground", CANNOT, x, () -> x.buy(0, 1));
        c.is("37 it can still sell", 10000L + 10, x.sell(0, 1));
        c.is("39 afloat again without room", 0, x.greatestLoad(0));
        weeks(x, 1);
        c.is("39 one decimetre too few", 0, x.greatestLoad(0));
        weeks(x, 4);
        c.is("39 without water", 0, x.greatestLoad(0));
        c.is("39 without water", 0, x.greatestLoad(1));
    }

    private static void meanLevelsAtTheEdges() {
        BargeRiver x = new BargeRiver();
        x.rain(0, 5000);
        c.is("50 one full reach", 60.0, x.meanLevel());
        for (int reach = 1; reach < 6; reach++) {
            x.addReach(reach, 60, 1, 10, 5);
        }
        c.is("50 six full reaches", 60.0, x.meanLevel());
        x.endWeek();
        c.is("50 each a decimetre less", 59.0, x.meanLevel());
        x.rain(5, 5);
        c.is("50 a sixth", 355.0 / 6.0, x.meanLevel());
    }

    private static void linesAtTheEdges() {
        BargeRiver x = new BargeRiver();
        c.refuses("53 the empty line", NO_SUCH, x, () -> x.lineAt(0));
        c.refuses("52 no reach, so it stays empty", NO_SUCH, x, () -> x.writeReach(1));
        x.addReach(1, 10, 1, 80, 60);
        x.addReach(1, 0, 1, 80, 60);
        c.is("52 two digits", "1: 10dm", Check.written(x, 1));
        x.endWeek();
        c.is("53 the line is not written again", "1: 10dm", Check.line(x));
        c.is("52 one digit", "1: 9dm", Check.written(x, 1));
        c.refuses("53 its length", NO_SUCH, x, () -> x.lineAt(6));
        c.is("53 its last character", 'm', x.lineAt(5));
        c.is("52 without water", "2: 0dm", Check.written(x, 2));
        for (int barge = 0; barge < 8; barge++) {
            x.addBarge(0, 5, 2, 1);
        }
        c.is("52 eight convoys", 23, x.writeReach(0));
        x.couple(7, 0);
        c.is("53 the line is not written again", "0: 29dm 0 1 2 3 4 5 6 7", Check.line(x));
        c.is("52 one behind the last", "0: 29dm 1 2 3 4 5 6 7+0", Check.written(x, 0));
        x.pass(0, true);
        c.is("52 they are gone", "0: 28dm 1 2 3 4 5 6", Check.written(x, 0));
        c.is("52 to here", "1: 10dm 7+0", Check.written(x, 1));
        for (int i : new int[] {-1, 11, 19, 23, Integer.MIN_VALUE, Integer.MAX_VALUE}) {
            c.refuses("53 lineAt(" + i + ")", NO_SUCH, x, () -> x.lineAt(i));
        }
    }

    /** Each pair of exceptions of a call that can apply at once. */
    private static void theFirstDocumentedIsThrown() {
        BargeRiver x = new BargeRiver();
        for (int reach = 1; reach < 6; reach++) {
            x.addReach(10, 0, 1, 10, 5);
        }
        c.refuses("2 range, number", BAD, x, () -> x.addReach(0, 0, 1, 10, 5));
        c.refuses("14 reach, range", NO_SUCH, x, () -> x.rain(6, 0));
        c.refuses("17 reach, range", NO_SUCH, x, () -> x.addBarge(6, 4, 5, 1));
        c.refuses("17 range, afloat", BAD, x, () -> x.addBarge(1, 4, 5, 1));
        for (int barge = 0; barge < 8; barge++) {
            x.addBarge(0, 11, 5, 1);
        }
        c.refuses("17 reach, number", NO_SUCH, x, () -> x.addBarge(-1, 11, 5, 1));
        c.refuses("17 range, number", BAD, x, () -> x.addBarge(0, 11, 5, 0));
        c.refuses("17 number, afloat", STATE, x, () -> x.addBarge(1, 11, 5, 1));
        c.refuses("23 barge, the same convoy", NO_SUCH, x, () -> x.couple(8, 8));
        for (int barge = 1; barge < 4; barge++) {
            x.couple(0, barge);
        }
        c.refuses("23 the same convoy, eight barges", BAD, x, () -> x.couple(0, 3));
        c.refuses("26 barge, place", NO_SUCH, x, () -> x.convoyAt(8, 4));
        c.refuses("27 lock, too long", NO_SUCH, x, () -> x.partsFor(0, 5));
        c.refuses("28 barge, lock", NO_SUCH, x, () -> x.pass(8, false));
        c.refuses("28 lock, refused", NONE, x, () -> x.pass(0, false));
        c.refuses("29 reach, refused", NO_SUCH, x, () -> x.voyage(0, 6));
        c.refuses("29 barge, there", NO_SUCH, x, () -> x.voyage(8, 0));
        c.refuses("29 there, refused", STATE, x, () -> x.voyage(0, 0));
        c.refuses("31 reach, refused", NO_SUCH, x, () -> x.waterFor(0, 6));
        c.refuses("36 barge, range", NO_SUCH, x, () -> x.buy(8, 0));
        c.refuses("36 range, afloat, money", BAD, x, () -> x.buy(0, 1000));
        c.refuses("36 afloat, money", CANNOT, x, () -> x.buy(0, 999));
        c.refuses("37 barge, range", NO_SUCH, x, () -> x.sell(8, 0));
        c.refuses("37 range, cargo", BAD, x, () -> x.sell(0, 1000));
        c.refuses("38 barge, range", NO_SUCH, x, () -> x.sellToDraught(8, 0));
        c.refuses("38 range, empty draught", BAD, x, () -> x.sellToDraught(0, 0));
        c.refuses("40 barge and reach", NO_SUCH, x, () -> x.worthIn(8, 6));
    }

    /** 512 calls of those that move the most water, the last of them as promised too. */
    private static void allPromisedCalls() {
        BargeRiver x = new BargeRiver();
        PlainRiver y = new PlainRiver();
        int calls = 0;
        for (int reach = 1; reach < 6; reach++, calls++) {
            c.is("2 addReach", y.addReach(50, 60, 1, 10, 5), x.addReach(50, 60, 1, 10, 5));
        }
        for (int barge = 0; barge < 4; barge++, calls++) {
            c.is("17 addBarge", y.addBarge(0, 10, 2, 1), x.addBarge(0, 10, 2, 1));
        }
        for (int barge = 1; barge < 4; barge++, calls++) {
            c.is("23 couple", y.couple(0, barge), x.couple(0, barge));
        }
        for (; calls < 508; calls++) {
            if (calls % 4 == 0) {
                c.is("14 rain", y.rain(0, 600), x.rain(0, 600));
            } else {
                int to = y.reachOf(0) == 0 ? 5 : 0;
                c.is("29 voyage " + calls, y.voyage(0, to), x.voyage(0, to));
            }
        }
        c.is("46 movementCount", y.movementCount(), x.movementCount());
        int last = y.movementCount() - 1;
        c.is("49 movementVolume", y.movementVolume(last), x.movementVolume(last));
        c.is("48 movementTo", y.movementTo(last), x.movementTo(last));
        c.is("51 isBalanced", true, x.isBalanced());
    }
}
