/** The terms of the document, sentence by sentence: the boundary cases that they name. */
public final class TermsEdgeTest {
    private static final Class<IllegalArgumentException> BAD = IllegalArgumentException.class;
    private static final Class<IllegalStateException> STATE = IllegalStateException.class;
    private static final Class<UnsupportedOperationException> CANNOT =
            UnsupportedOperationException.class;
    private static final Check c = new Check("TermsEdgeTest");

    public static void main(String[] args) {
        atMostSixReaches();
        theLevelIsRoundedDown();
        aReachHoldsSixtyTimesItsArea();
        whatIsBeyondGoesOn();
        aReachBelowTakesWhatTheSeaTookBefore();
        fillingNeedsALockful();
        emptyingUpToTheBrim();
        atMostEightBarges();
        theDraughtIsRoundedUp();
        afloatBelowTheLevel();
        aConvoyOfOneToFour();
        aPartIsAsManyAsFit();
        tooLongAtEachPlace();
        tooDeepAtEachPlace();
        agroundPartByPart();
        agroundBeforeTheLocking();
        noWaterPartByPart();
        shallowPartByPart();
        ofAPartEachBargeCounts();
        theReasonsOfAnEarlierPart();
        aTenthIsRoundedUp();
        theLevelAtWhichItWasAdded();
        theWaterOfADecimetre();
        aMovementIsAtLeastOne();
        theReachZeroIsTheMovementZero();
        c.end();
    }

    /** Barges in the reach 0 or 1, in one convoy, by their lengths and empty draughts. */
    private static void addConvoy(BargeRiver x, int reach, int[] lengths, int[] draughts) {
        for (int i = 0; i < lengths.length; i++) {
            int barge = x.addBarge(reach, lengths[i], draughts[i], 10);
            if (i > 0) {
                x.couple(barge - 1, barge);
            }
        }
    }

    private static BargeRiver withConvoy(int[] reachBelow, int reach, int[] lengths,
            int[] draughts) {
        BargeRiver x = new BargeRiver();
        x.addReach(reachBelow[0], reachBelow[1], reachBelow[2], reachBelow[3], reachBelow[4]);
        addConvoy(x, reach, lengths, draughts);
        return x;
    }

    private static void weeks(BargeRiver x, int weeks) {
        for (int week = 0; week < weeks; week++) {
            x.endWeek();
        }
    }

    private static void atMostSixReaches() {
        BargeRiver x = new BargeRiver();
        for (int reach = 1; reach < 6; reach++) {
            c.is("the reach " + reach, reach, x.addReach(1, 0, 1, 10, 5));
        }
        c.refuses("a seventh", STATE, x, () -> x.addReach(1, 0, 1, 10, 5));
        c.is("six", 6, x.reachCount());
    }

    private static void theLevelIsRoundedDown() {
        BargeRiver x = new BargeRiver();
        x.addReach(50, 0, 1, 10, 5);
        c.is("the level of 0 on 50", 0, x.levelOf(1));
        int[][] due = {{49, 0}, {1, 1}, {49, 1}, {1, 2}, {2899, 59}, {1, 60}};
        for (int[] row : due) {
            x.rain(1, row[0]);
            c.is("the level of " + x.volumeOf(1) + " on 50", row[1], x.levelOf(1));
        }
    }

    private static void aReachHoldsSixtyTimesItsArea() {
        for (int area : new int[] {1, 7, 50}) {
            BargeRiver x = new BargeRiver();
            x.addReach(area, 60, 1, 10, 5);
            c.is("a full reach is added", 60 * area, x.volumeOf(1));
            c.is("nothing is beyond", 0, x.seaTotal());
            c.is("1 is beyond", 1, x.rain(1, 1));
            c.is("it is full", 60 * area, x.volumeOf(1));
            BargeRiver y = new BargeRiver();
            y.addReach(area, 59, 1, 10, 5);
            c.is("the last decimetre", 0, y.rain(1, area));
            c.is("it is full", 60 * area, y.volumeOf(1));
            c.is("then all is beyond", 7, y.rain(1, 7));
        }
    }

    private static void whatIsBeyondGoesOn() {
        BargeRiver x = new BargeRiver();
        x.addReach(10, 60, 1, 10, 5);
        x.addReach(5, 59, 1, 10, 5);
        c.is("no more than to the last", 0, x.rain(0, 605));
        c.is("at once", "-1>0:605 0>1:5 1>2:5", Check.movements(x, 3));
        c.is("from the last into the sea", 1, x.rain(0, 1));
        c.is("at once", "-1>0:1 0>1:1 1>2:1 2>-2:1", Check.movements(x, 6));
        c.is("never up", 1, x.rain(2, 1));
        c.is("only from the last", "-1>2:1 2>-2:1", Check.movements(x, 10));
    }

    private static void aReachBelowTakesWhatTheSeaTookBefore() {
        BargeRiver x = new BargeRiver();
        c.is("the reach 0 is the last one", 1, x.rain(0, 601));
        x.addReach(1, 59, 1, 10, 5);
        c.is("it is not any more", 0, x.rain(0, 1));
        c.is("the last one is full now", 60, x.volumeOf(1));
        c.is("so the sea takes it", 1, x.rain(0, 1));
    }

    private static void fillingNeedsALockful() {
        BargeRiver x = new BargeRiver();
        x.addReach(1, 1, 200, 10, 5);
        x.addReach(1, 0, 1, 10, 5);
        c.is("1 of 1", true, x.turn(1));
        c.is("nothing is left", 0, x.volumeOf(1));
        c.is("a full chamber needs no water", false, x.turn(1));
        c.refuses("0 of 1", CANNOT, x, () -> x.turn(1));
        c.is("its lockful", 1, x.volumeOf(2));
        for (int i = 0; i < 3; i++) {
            c.is("200 of " + x.volumeOf(0), true, x.turn(0));
            c.is("a full chamber holds a lockful", x.cameTotal() - x.seaTotal(), x.heldTotal());
            c.is("empty", false, x.turn(0));
        }
        c.refuses("0 of 200", CANNOT, x, () -> x.turn(0));
        x.rain(0, 199);
        c.refuses("199 of 200", CANNOT, x, () -> x.turn(0));
        c.is("it is empty", false, x.isFull(0));
    }

    private static void emptyingUpToTheBrim() {
        BargeRiver x = new BargeRiver();
        x.addReach(10, 56, 40, 10, 5);
        x.turn(0);
        x.turn(0);
        c.is("just full", "0>10:40 10>1:40", Check.movements(x, 2));
        c.is("just full", 60, x.levelOf(1));
        BargeRiver y = new BargeRiver();
        y.addReach(10, 56, 40, 10, 5);
        y.rain(1, 1);
        y.turn(0);
        c.is("1 beyond", false, y.turn(0));
        c.is("1 beyond", "0>10:40 10>1:40 1>-2:1", Check.movements(y, 3));
        c.is("the chamber has let in all", 40, y.waterThrough(0));
    }

    private static void atMostEightBarges() {
        BargeRiver x = new BargeRiver();
        for (int barge = 0; barge < 8; barge++) {
            c.is("the barge " + barge, barge, x.addBarge(0, 5, 2, 1));
        }
        c.refuses("a ninth", STATE, x, () -> x.addBarge(0, 5, 2, 1));
        c.is("eight", 8, x.bargeCount());
    }

    private static void theDraughtIsRoundedUp() {
        BargeRiver x = new BargeRiver();
        x.addBarge(0, 5, 2, 20);
        int[][] due = {{1, 3}, {18, 3}, {1, 3}, {1, 4}, {19, 4}, {1, 5}};
        c.is("the draught of 0 tons", 2, x.draughtOf(0));
        for (int[] row : due) {
            x.buy(0, row[0]);
            c.is("the draught of " + x.cargoOf(0) + " tons", row[1], x.draughtOf(0));
        }
        BargeRiver y = new BargeRiver();
        y.addBarge(0, 5, 20, 1);
        y.buy(0, 1);
        c.is("a decimetre for each ton", 21, y.draughtOf(0));
    }

    private static void afloatBelowTheLevel() {
        BargeRiver x = new BargeRiver();
        x.addReach(3, 6, 1, 10, 5);
        x.addBarge(1, 5, 5, 1);
        c.is("draught 5 at level 6", true, x.isAfloat(0));
        x.endWeek();
        c.is("draught 5 at level 5", false, x.isAfloat(0));
        c.is("it stays in its reach", 1, x.reachOf(0));
        x.rain(1, 2);
        c.is("draught 5 at level 5 and a bit", false, x.isAfloat(0));
        x.rain(1, 1);
        c.is("draught 5 at level 6 again", true, x.isAfloat(0));
        weeks(x, 6);
        c.is("draught 5 without water", false, x.isAfloat(0));
        c.is("it stays even then", 1, x.reachOf(0));
    }

    private static void aConvoyOfOneToFour() {
        BargeRiver x = new BargeRiver();
        for (int barge = 0; barge < 8; barge++) {
            x.addBarge(0, 5, 2, 1);
            c.is("one", 1, x.convoySize(barge));
        }
        c.is("one and one", 2, x.couple(0, 1));
        c.is("two and one", 3, x.couple(0, 2));
        x.couple(3, 4);
        c.refuses("three and two", STATE, x, () -> x.couple(0, 4));
        c.refuses("two and three", STATE, x, () -> x.couple(4, 0));
        x.uncouple(4);
        c.is("one and three", 4, x.couple(3, 0));
        c.is("in order", "0: 30dm 3+0+1+2 4 5 6 7", Check.written(x, 0));
        c.refuses("four and one", STATE, x, () -> x.couple(3, 4));
        c.refuses("one and four", STATE, x, () -> x.couple(4, 3));
        x.couple(4, 5);
        x.couple(6, 7);
        c.is("two and two", 4, x.couple(5, 6));
        c.refuses("four and four", STATE, x, () -> x.couple(0, 7));
    }

    private static void aPartIsAsManyAsFit() {
        int[][] due = {{40, 1}, {39, 2}, {30, 2}, {29, 2}, {20, 2}, {19, 4}, {10, 4}};
        for (int[] row : due) {
            BargeRiver x = withConvoy(new int[] {50, 60, 1, row[0], 60}, 0,
                    new int[] {10, 10, 10, 10}, new int[] {2, 2, 2, 2});
            c.is("four of 10 in " + row[0], row[1], x.partsFor(0, 0));
            c.is("so many lockings", row[1], x.pass(0, true));
            c.is("it stays one convoy", "1: 60dm 0+1+2+3", Check.written(x, 1));
            c.is("so many lockings up", row[1], x.pass(3, false));
        }
    }

    private static void tooLongAtEachPlace() {
        for (int place = 0; place < 3; place++) {
            int[] lengths = {40, 40, 40};
            lengths[place] = 41;
            BargeRiver x = withConvoy(new int[] {50, 60, 1, 40, 60}, 0, lengths,
                    new int[] {2, 2, 2});
            for (int asked = 0; asked < 3; asked++) {
                int barge = asked;
                c.refusesPassage("41 in 40 at the place " + place, BargeRiver.TOO_LONG, 0, x,
                        () -> x.pass(barge, true));
            }
        }
        BargeRiver y = withConvoy(new int[] {50, 60, 1, 40, 60}, 0, new int[] {40, 40, 40},
                new int[] {2, 2, 2});
        c.is("40 in 40", 3, y.pass(0, true));
    }

    private static void tooDeepAtEachPlace() {
        for (int place = 0; place < 3; place++) {
            int[] draughts = {5, 5, 5};
            draughts[place] = 6;
            BargeRiver x = withConvoy(new int[] {50, 60, 1, 40, 5}, 1, new int[] {20, 20, 20},
                    draughts);
            for (int asked = 0; asked < 3; asked++) {
                int barge = asked;
                c.refusesPassage("draught 6 on sill 5 at the place " + place,
                        BargeRiver.TOO_DEEP, 0, x, () -> x.pass(barge, false));
            }
        }
        BargeRiver y = withConvoy(new int[] {50, 60, 1, 40, 5}, 1, new int[] {20, 20, 20},
                new int[] {5, 5, 5});
        c.is("draught 5 on sill 5", 2, y.pass(0, false));
    }

    private static void agroundPartByPart() {
        BargeRiver x = withConvoy(new int[] {50, 60, 20, 40, 60}, 0, new int[] {40, 40},
                new int[] {5, 20});
        weeks(x, 10);
        c.is("level 20", 20, x.levelOf(0));
        c.refusesPassage("the second part is aground", BargeRiver.AGROUND, 0, x,
                () -> x.pass(0, true));
        x.uncouple(1);
        c.is("not the first part", 1, x.pass(0, true));
        BargeRiver y = withConvoy(new int[] {50, 60, 20, 40, 60}, 0, new int[] {40, 40},
                new int[] {20, 20});
        weeks(y, 9);
        c.refusesPassage("the first part takes the water of the second", BargeRiver.AGROUND, 0, y,
                () -> y.pass(0, true));
        y.rain(0, 19);
        c.refusesPassage("1 of water is missing", BargeRiver.AGROUND, 0, y,
                () -> y.pass(0, true));
        y.rain(0, 1);
        c.is("the first part takes less than that", 2, y.pass(0, true));
    }

    private static void agroundBeforeTheLocking() {
        int[] below = {10, 21, 10, 40, 60};
        BargeRiver x = withConvoy(below, 1, new int[] {40, 40}, new int[] {5, 20});
        x.endWeek();
        c.refusesPassage("by an empty chamber nothing lifts the second part",
                BargeRiver.AGROUND, 0, x, () -> x.pass(0, false));
        x.turn(0);
        c.is("20 at level 20", false, x.isAfloat(1));
        c.is("a full chamber is emptied for the first part and lifts the second", 2,
                x.pass(0, false));
        BargeRiver y = withConvoy(below, 1, new int[] {40, 40}, new int[] {20, 5});
        y.endWeek();
        y.turn(0);
        c.refusesPassage("but it does not lift the first part in time", BargeRiver.AGROUND, 0, y,
                () -> y.pass(0, false));
    }

    private static BargeRiver withTwoParts(int volume, boolean isFull) {
        BargeRiver x = withConvoy(new int[] {50, 60, 100, 40, 60}, 0, new int[] {40, 40},
                new int[] {2, 2});
        if (isFull) {
            x.turn(0);
        }
        while (x.volumeOf(0) >= volume) {
            x.endWeek();
        }
        x.rain(0, volume - x.volumeOf(0));
        return x;
    }

    private static void noWaterPartByPart() {
        BargeRiver x = withTwoParts(199, false);
        c.is("199", 199, x.volumeOf(0));
        c.refusesPassage("99 are left for the second part", BargeRiver.NO_WATER, 0, x,
                () -> x.pass(0, true));
        x.rain(0, 1);
        c.is("100 are left for the second part", 2, x.pass(0, true));
        c.is("then none", 0, x.volumeOf(0));
        BargeRiver y = withTwoParts(99, true);
        c.is("99", 99, y.volumeOf(0));
        c.refusesPassage("the first part needs none, the second 100", BargeRiver.NO_WATER, 0, y,
                () -> y.pass(0, true));
        c.is("the chamber is still full", true, y.isFull(0));
        y.rain(0, 1);
        c.is("the first part needs none, the second has 100", 2, y.pass(0, true));
        BargeRiver z = withConvoy(new int[] {50, 60, 200, 40, 60}, 1, new int[] {40, 40},
                new int[] {2, 2});
        weeks(z, 12);
        z.rain(0, 39);
        c.is("399", 399, z.volumeOf(0));
        c.refusesPassage("up, 199 are left for the second part", BargeRiver.NO_WATER, 0, z,
                () -> z.pass(0, false));
        z.rain(0, 1);
        c.refusesPassage("up, 200 are left, and then none", BargeRiver.SHALLOW, 0, z,
                () -> z.pass(0, false));
        z.rain(0, 60);
        c.is("up, draught 2 at level 3", 2, z.pass(0, false));
    }

    private static void shallowPartByPart() {
        int[] below = {10, 4, 20, 40, 60};
        BargeRiver x = withConvoy(below, 0, new int[] {40, 40}, new int[] {6, 2});
        c.refusesPassage("down, draught 6 at level 6", BargeRiver.SHALLOW, 0, x,
                () -> x.pass(0, true));
        BargeRiver y = withConvoy(below, 0, new int[] {40, 40}, new int[] {2, 6});
        c.is("down, draught 6 at level 8", 2, y.pass(0, true));
        BargeRiver z = withConvoy(new int[] {50, 60, 20, 40, 60}, 1, new int[] {40, 40},
                new int[] {18, 19});
        weeks(z, 9);
        c.is("level 21", 21, z.levelOf(0));
        c.refusesPassage("up, draught 19 at level 19", BargeRiver.SHALLOW, 0, z,
                () -> z.pass(0, false));
        z.uncouple(1);
        z.couple(1, 0);
        c.is("up, draught 19 at level 20 and 18 at level 19", 2, z.pass(0, false));
        c.is("level 19", 19, z.levelOf(0));
    }

    private static void ofAPartEachBargeCounts() {
        for (int deep = 0; deep < 2; deep++) {
            int[] draughts = {2, 2};
            draughts[deep] = 6;
            BargeRiver x = withConvoy(new int[] {10, 4, 20, 40, 60}, 0, new int[] {20, 20},
                    draughts);
            c.refusesPassage("shallow for the barge " + deep, BargeRiver.SHALLOW, 0, x,
                    () -> x.pass(0, true));
            weeks(x, 24);
            c.is("level 6", 6, x.levelOf(0));
            c.refusesPassage("aground is the barge " + deep, BargeRiver.AGROUND, 0, x,
                    () -> x.pass(0, true));
        }
    }

    private static void theReasonsOfAnEarlierPart() {
        int[] lengths = {40, 40};
        BargeRiver x = withConvoy(new int[] {10, 4, 20, 40, 60}, 0, lengths, new int[] {6, 7});
        weeks(x, 23);
        c.is("level 7", 7, x.levelOf(0));
        c.refusesPassage("the first is shallow before the second is aground", BargeRiver.SHALLOW,
                0, x, () -> x.pass(0, true));
        BargeRiver y = withConvoy(new int[] {10, 4, 20, 40, 6}, 0, lengths, new int[] {6, 7});
        weeks(y, 25);
        c.refusesPassage("the second is too deep before the first is aground",
                BargeRiver.TOO_DEEP, 0, y, () -> y.pass(0, true));
        BargeRiver z = withConvoy(new int[] {10, 4, 20, 40, 6}, 0, new int[] {40, 41},
                new int[] {7, 2});
        c.refusesPassage("the second is too long before the first is too deep",
                BargeRiver.TOO_LONG, 0, z, () -> z.pass(0, true));
    }

    private static void aTenthIsRoundedUp() {
        BargeRiver x = new BargeRiver();
        x.addReach(1, 60, 1, 10, 5);
        x.addReach(1, 0, 1, 10, 5);
        int[] rising = {110, 121, 134, 148};
        int[] falling = {90, 81, 72, 64};
        for (int week = 0; week < 4; week++) {
            x.rain(2, 2);
            c.is("of two prices", 2, x.endWeek());
            c.is("a tenth is added", rising[week], x.priceIn(1));
            c.is("a tenth is taken", falling[week], x.priceIn(2));
        }
        x.rain(1, 1);
        x.rain(2, 1);
        x.rain(0, 20);
        c.is("no level is other", 0, x.endWeek());
        c.is("it stays", 148, x.priceIn(1));
        c.is("it stays", 64, x.priceIn(2));
    }

    private static void theLevelAtWhichItWasAdded() {
        for (int water : new int[] {0, 9, 10, 19, 20}) {
            BargeRiver x = new BargeRiver();
            x.endWeek();
            x.addReach(10, 20, 1, 10, 5);
            if (water > 0) {
                x.rain(1, water);
            }
            x.endWeek();
            c.is("after the rain " + water, water < 10 ? 110 : water < 20 ? 100 : 90,
                    x.priceIn(1));
        }
    }

    private static void theWaterOfADecimetre() {
        for (int volume : new int[] {0, 1, 6, 7, 8}) {
            BargeRiver x = new BargeRiver();
            x.addReach(7, 0, 1, 10, 5);
            if (volume > 0) {
                x.rain(1, volume);
            }
            int before = x.movementCount();
            x.endWeek();
            String air = volume == 0 ? "" : " 1>-3:" + Math.min(volume, 7);
            c.is("the air takes of " + volume, "0>-3:20" + air, Check.movements(x, before));
            c.is("what is left of " + volume, volume == 8 ? 1 : 0, x.volumeOf(1));
        }
    }

    private static void aMovementIsAtLeastOne() {
        BargeRiver x = new BargeRiver();
        x.addReach(50, 0, 1, 10, 5);
        c.is("no water is no movement", 1, x.movementCount());
        weeks(x, 30);
        c.is("the last water of the reach 0", 31, x.movementCount());
        x.endWeek();
        c.is("there is no water", 31, x.movementCount());
        x.rain(1, 1);
        c.is("1 is a movement", "-1>1:1", Check.movements(x, 31));
        c.refuses("none for a refused filling", CANNOT, x, () -> x.turn(0));
        c.refuses("none for refused rain", BAD, x, () -> x.rain(0, 0));
    }

    private static void theReachZeroIsTheMovementZero() {
        BargeRiver x = new BargeRiver();
        c.is("one movement", 1, x.movementCount());
        c.is("from the sky", -1, x.movementFrom(0));
        c.is("to the reach 0", 0, x.movementTo(0));
        c.is("its water", 600, x.movementVolume(0));
    }
}
