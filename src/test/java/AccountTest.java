/** Promises 42 to 51: accounts of water. */
public final class AccountTest {
    private static final Class<IndexOutOfBoundsException> NO_SUCH = IndexOutOfBoundsException.class;
    private static final Check c = new Check("AccountTest");

    public static void main(String[] args) {
        totals();
        movements();
        wrongMovements();
        refusedWaterIsNoMovement();
        volumesBySteps();
        meanLevels();
        manyMovements();
        moreMovementsThanPromised();
        c.end();
    }

    private static void totals() {
        BargeRiver x = new BargeRiver();
        c.is("42 cameTotal", 600, x.cameTotal());
        c.is("43 seaTotal", 0, x.seaTotal());
        c.is("44 airTotal", 0, x.airTotal());
        c.is("45 heldTotal", 600, x.heldTotal());
        c.is("51 isBalanced", true, x.isBalanced());
        x.addReach(10, 25, 40, 50, 15);
        x.addReach(3, 0, 30, 50, 15);
        c.is("42 a reach comes from the sky", 850, x.cameTotal());
        c.is("45 heldTotal", 850, x.heldTotal());
        x.turn(0);
        c.is("45 with a full chamber", 850, x.heldTotal());
        x.turn(1);
        c.is("45 with two full chambers", 850, x.heldTotal());
        c.is("5 volumeOf(0) is less", 560, x.volumeOf(0));
        x.endWeek();
        c.is("44 airTotal", 30, x.airTotal());
        c.is("45 heldTotal", 820, x.heldTotal());
        c.is("51 isBalanced", true, x.isBalanced());
        x.rain(2, 181);
        c.is("43 seaTotal", 1, x.seaTotal());
        x.turn(1);
        c.is("43 seaTotal after a turn", 31, x.seaTotal());
        c.is("42 cameTotal after rain", 1031, x.cameTotal());
        c.is("45 heldTotal", 970, x.heldTotal());
        x.endWeek();
        c.is("44 airTotal", 63, x.airTotal());
        c.is("51 isBalanced", true, x.isBalanced());
    }

    private static void movements() {
        BargeRiver x = new BargeRiver();
        c.is("46 movementCount", 1, x.movementCount());
        c.is("47 movementFrom(0)", BargeRiver.SKY, x.movementFrom(0));
        c.is("48 movementTo(0)", 0, x.movementTo(0));
        c.is("49 movementVolume(0)", 600, x.movementVolume(0));
        x.addReach(10, 60, 40, 50, 15);
        x.addReach(1, 1, 40, 50, 15);
        x.turn(0);
        x.turn(1);
        x.turn(0);
        x.turn(1);
        x.endWeek();
        c.is("46 movementCount", 10, x.movementCount());
        c.is("47 to 49 the movements", "-1>0:600 -1>1:600 -1>2:1 0>10:40 1>11:40 10>1:40 11>2:40",
                Check.movements(x, 0).substring(0, 56));
        c.is("47 to 49 the movements", "0>-3:20 1>-3:10 2>-3:1", Check.movements(x, 7));
    }

    private static void wrongMovements() {
        BargeRiver x = new BargeRiver();
        x.rain(0, 1);
        for (int m : new int[] {-1, 2, 255, 256, Integer.MIN_VALUE, Integer.MAX_VALUE}) {
            c.refuses("47 movementFrom(" + m + ")", NO_SUCH, x, () -> x.movementFrom(m));
            c.refuses("48 movementTo(" + m + ")", NO_SUCH, x, () -> x.movementTo(m));
            c.refuses("49 movementVolume(" + m + ")", NO_SUCH, x, () -> x.movementVolume(m));
        }
    }

    private static void refusedWaterIsNoMovement() {
        BargeRiver x = new BargeRiver();
        x.addReach(50, 60, 200, 50, 15);
        x.addBarge(0, 50, 5, 10);
        x.addBarge(0, 50, 5, 10);
        x.addBarge(0, 50, 5, 10);
        x.couple(0, 1);
        x.couple(0, 2);
        x.endWeek();
        int before = x.movementCount();
        c.refusesPassage("28 the third part", BargeRiver.NO_WATER, 0, x, () -> x.pass(0, true));
        c.is("46 movementCount", before, x.movementCount());
        c.refuses("47 no movement of the first part", NO_SUCH, x, () -> x.movementFrom(before));
        c.is("13 waterThrough", 0, x.waterThrough(0));
        c.is("43 seaTotal", 0, x.seaTotal());
        c.is("51 isBalanced", true, x.isBalanced());
        x.rain(0, 3);
        c.is("46 the next movement", "-1>0:3", Check.movements(x, before));
    }

    private static void volumesBySteps() {
        BargeRiver x = new BargeRiver();
        x.addReach(10, 55, 40, 50, 15);
        x.addReach(3, 59, 30, 50, 15);
        x.addBarge(0, 30, 2, 10);
        x.voyage(0, 2);
        x.rain(0, 2000);
        x.endWeek();
        x.voyage(0, 0);
        int[] due = {1140, 560, 177};
        for (int reach = 0; reach < 3; reach++) {
            c.is("6 volumeBySteps(" + reach + ")", due[reach], x.volumeBySteps(reach));
            c.is("5 volumeOf(" + reach + ")", due[reach], x.volumeOf(reach));
        }
        c.is("51 isBalanced", true, x.isBalanced());
    }

    private static void meanLevels() {
        BargeRiver x = new BargeRiver();
        c.is("50 of one", 30.0, x.meanLevel());
        x.addReach(10, 25, 40, 50, 15);
        c.is("50 of two", 27.5, x.meanLevel());
        x.addReach(10, 1, 40, 50, 15);
        c.is("50 of three", 56.0 / 3.0, x.meanLevel());
        x.rain(2, 9);
        c.is("50 of levels, not of volumes", 56.0 / 3.0, x.meanLevel());
        x.addReach(10, 0, 40, 50, 15);
        c.is("50 of four", 14.0, x.meanLevel());
    }

    private static BargeRiver busyRiver() {
        BargeRiver x = new BargeRiver();
        for (int reach = 1; reach < 6; reach++) {
            x.addReach(50, 60, 1, 10, 5);
        }
        x.rain(0, 5000);
        for (int b = 0; b < 4; b++) {
            x.addBarge(0, 10, 2, 1);
            if (b > 0) {
                x.couple(0, b);
            }
        }
        return x;
    }

    private static void manyMovements() {
        BargeRiver x = busyRiver();
        int before = x.movementCount();
        c.is("29 a voyage through full reaches", 20, x.voyage(0, 5));
        c.is("46 no call makes more movements", before + 100, x.movementCount());
        c.is("46 a part through the lock 0", "0>10:1 10>1:1 1>2:1 2>3:1 3>4:1 4>5:1 5>-2:1",
                Check.movements(x, before + 21).substring(0, 44));
        int calls = 14;
        while (calls < 500) {
            x.voyage(0, x.reachOf(0) == 0 ? 5 : 0);
            x.rain(0, 4);
            calls += 2;
        }
        c.is("46 many movements", true, x.movementCount() > 10000);
        c.is("51 isBalanced", true, x.isBalanced());
        c.is("47 the first one is kept", "-1>0:600", Check.movements(x, 0).substring(0, 8));
        int last = x.movementCount() - 1;
        c.is("49 the last one is known", true, x.movementVolume(last) >= 1);
        c.refuses("49 none after it", NO_SUCH, x, () -> x.movementVolume(last + 1));
    }

    private static void moreMovementsThanPromised() {
        BargeRiver x = busyRiver();
        for (int i = 0; i < 5000; i++) {
            int to = x.reachOf(0) == 0 ? 5 : 0;
            c.is("29 long after the last promised call", "no exception", Check.thrownBy(() -> {
                x.voyage(0, to);
                x.rain(0, 4);
                x.volumeBySteps(0);
            }));
        }
    }
}
