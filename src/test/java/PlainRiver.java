import java.util.ArrayList;
import java.util.List;
import java.util.NoSuchElementException;

/**
 * The same river once more, written from the document without regard to speed, for ModelTest.
 * A voyage is tried on a copy of the whole river, which then takes its place or is thrown away.
 */
final class PlainRiver {
    private static final class Reach {
        int area;
        int volume;
        int price = 100;
        int levelBefore;
    }

    private static final class Lock {
        int lockful;
        int length;
        int sill;
        boolean isFull;
    }

    private static final class Barge {
        int reach;
        int length;
        int empty;
        int tons;
        int cargo;
    }

    private static final class Refusal extends RuntimeException {
        private static final long serialVersionUID = 1L;
        final int reason;
        final int lock;

        Refusal(int reason, int lock) {
            this.reason = reason;
            this.lock = lock;
        }
    }

    private List<Reach> reaches = new ArrayList<>();
    private List<Lock> locks = new ArrayList<>();
    private List<Barge> barges = new ArrayList<>();
    private List<List<Integer>> convoys = new ArrayList<>();
    private List<int[]> moves = new ArrayList<>();
    private int weeks;
    private long money = 10000;
    private Refusal refusal;
    private String line = "";

    PlainRiver() {
        newReach(20, 30);
    }

    private PlainRiver(PlainRiver other) {
        for (Reach r : other.reaches) {
            Reach copy = new Reach();
            copy.area = r.area;
            copy.volume = r.volume;
            copy.price = r.price;
            copy.levelBefore = r.levelBefore;
            reaches.add(copy);
        }
        for (Lock k : other.locks) {
            Lock copy = new Lock();
            copy.lockful = k.lockful;
            copy.length = k.length;
            copy.sill = k.sill;
            copy.isFull = k.isFull;
            locks.add(copy);
        }
        for (Barge b : other.barges) {
            Barge copy = new Barge();
            copy.reach = b.reach;
            copy.length = b.length;
            copy.empty = b.empty;
            copy.tons = b.tons;
            copy.cargo = b.cargo;
            barges.add(copy);
        }
        for (List<Integer> convoy : other.convoys) {
            convoys.add(new ArrayList<>(convoy));
        }
        moves.addAll(other.moves);
    }

    int addReach(int area, int level, int lockful, int length, int sill) {
        if (area < 1 || area > 50 || level < 0 || level > 60 || lockful < 1 || lockful > 200
                || length < 10 || length > 200 || sill < 5 || sill > 60) {
            throw new IllegalArgumentException();
        }
        if (reaches.size() == 6) {
            throw new IllegalStateException();
        }
        Lock k = new Lock();
        k.lockful = lockful;
        k.length = length;
        k.sill = sill;
        locks.add(k);
        newReach(area, level);
        return reaches.size() - 1;
    }

    private void newReach(int area, int level) {
        Reach r = new Reach();
        r.area = area;
        r.volume = area * level;
        r.levelBefore = level;
        reaches.add(r);
        record(BargeRiver.SKY, reaches.size() - 1, area * level);
    }

    private void record(int from, int to, int volume) {
        if (volume >= 1) {
            moves.add(new int[] {from, to, volume});
        }
    }

    private void bring(int from, int reach, int volume) {
        record(from, reach, volume);
        Reach r = reaches.get(reach);
        r.volume += volume;
        int most = 60 * r.area;
        if (r.volume > most) {
            int rest = r.volume - most;
            r.volume = most;
            if (reach == reaches.size() - 1) {
                record(reach, BargeRiver.SEA, rest);
            } else {
                bring(reach, reach + 1, rest);
            }
        }
    }

    int reachCount() {
        return reaches.size();
    }

    private Reach reach(int reach) {
        if (reach < 0 || reach >= reaches.size()) {
            throw new IndexOutOfBoundsException();
        }
        return reaches.get(reach);
    }

    private Lock lock(int lock) {
        if (lock < 0 || lock >= locks.size()) {
            throw new IndexOutOfBoundsException();
        }
        return locks.get(lock);
    }

    private Barge barge(int barge) {
        if (barge < 0 || barge >= barges.size()) {
            throw new IndexOutOfBoundsException();
        }
        return barges.get(barge);
    }

    private int[] move(int movement) {
        if (movement < 0 || movement >= moves.size()) {
            throw new IndexOutOfBoundsException();
        }
        return moves.get(movement);
    }

    private List<Integer> convoy(int barge) {
        barge(barge);
        for (List<Integer> convoy : convoys) {
            if (convoy.contains(barge)) {
                return convoy;
            }
        }
        throw new AssertionError("each barge belongs to a convoy");
    }

    int areaOf(int reach) {
        return reach(reach).area;
    }

    int volumeOf(int reach) {
        return reach(reach).volume;
    }

    int volumeBySteps(int reach) {
        reach(reach);
        return sum(null, reach) - sum(reach, null);
    }

    private int sum(Integer from, Integer to) {
        int sum = 0;
        for (int[] move : moves) {
            if ((from == null || move[0] == from) && (to == null || move[1] == to)) {
                sum += move[2];
            }
        }
        return sum;
    }

    int levelOf(int reach) {
        return reach(reach).volume / reach(reach).area;
    }

    int lockfulOf(int lock) {
        return lock(lock).lockful;
    }

    int lengthOf(int lock) {
        return lock(lock).length;
    }

    int sillOf(int lock) {
        return lock(lock).sill;
    }

    boolean isFull(int lock) {
        return lock(lock).isFull;
    }

    boolean turn(int lock) {
        if (lock(lock).isFull) {
            emptyChamber(lock);
        } else if (!fillChamber(lock)) {
            throw new UnsupportedOperationException();
        }
        return lock(lock).isFull;
    }

    private boolean fillChamber(int lock) {
        if (reaches.get(lock).volume < locks.get(lock).lockful) {
            return false;
        }
        reaches.get(lock).volume -= locks.get(lock).lockful;
        locks.get(lock).isFull = true;
        record(lock, BargeRiver.CHAMBER + lock, locks.get(lock).lockful);
        return true;
    }

    private void emptyChamber(int lock) {
        locks.get(lock).isFull = false;
        bring(BargeRiver.CHAMBER + lock, lock + 1, locks.get(lock).lockful);
    }

    int waterThrough(int lock) {
        lock(lock);
        return sum(BargeRiver.CHAMBER + lock, null);
    }

    int rain(int reach, int volume) {
        reach(reach);
        if (volume < 1 || volume > 5000) {
            throw new IllegalArgumentException();
        }
        int before = seaTotal();
        bring(BargeRiver.SKY, reach, volume);
        return seaTotal() - before;
    }

    int endWeek() {
        for (int i = 0; i < reaches.size(); i++) {
            Reach r = reaches.get(i);
            int volume = r.volume < r.area ? r.volume : r.area;
            r.volume -= volume;
            record(i, BargeRiver.AIR, volume);
        }
        int higher = 0;
        for (int i = 0; i < reaches.size(); i++) {
            Reach r = reaches.get(i);
            int before = r.price;
            int tenth = before % 10 == 0 ? before / 10 : before / 10 + 1;
            if (levelOf(i) < r.levelBefore) {
                r.price += tenth;
            }
            if (levelOf(i) > r.levelBefore) {
                r.price -= tenth;
            }
            if (r.price > 9999) {
                r.price = 9999;
            }
            if (r.price < 1) {
                r.price = 1;
            }
            if (r.price > before) {
                higher++;
            }
            r.levelBefore = levelOf(i);
        }
        weeks++;
        return higher;
    }

    int weekCount() {
        return weeks;
    }

    int addBarge(int reach, int length, int draught, int tonsPerDecimetre) {
        reach(reach);
        if (length < 5 || length > 80 || draught < 2 || draught > 20 || tonsPerDecimetre < 1
                || tonsPerDecimetre > 20) {
            throw new IllegalArgumentException();
        }
        if (barges.size() == 8) {
            throw new IllegalStateException();
        }
        if (!(draught < levelOf(reach))) {
            throw new UnsupportedOperationException();
        }
        Barge b = new Barge();
        b.reach = reach;
        b.length = length;
        b.empty = draught;
        b.tons = tonsPerDecimetre;
        barges.add(b);
        convoys.add(new ArrayList<>(List.of(barges.size() - 1)));
        return barges.size() - 1;
    }

    int bargeCount() {
        return barges.size();
    }

    int reachOf(int barge) {
        return barge(barge).reach;
    }

    int cargoOf(int barge) {
        return barge(barge).cargo;
    }

    int draughtOf(int barge) {
        Barge b = barge(barge);
        int decimetres = 0;
        while (decimetres * b.tons < b.cargo) {
            decimetres++;
        }
        return b.empty + decimetres;
    }

    boolean isAfloat(int barge) {
        return draughtOf(barge) < levelOf(reachOf(barge));
    }

    int couple(int front, int back) {
        barge(front);
        barge(back);
        List<Integer> first = convoy(front);
        List<Integer> second = convoy(back);
        if (first.contains(back)) {
            throw new IllegalArgumentException();
        }
        if (reachOf(front) != reachOf(back) || first.size() + second.size() > 4) {
            throw new IllegalStateException();
        }
        convoys.remove(second);
        first.addAll(second);
        return first.size();
    }

    int uncouple(int barge) {
        List<Integer> convoy = convoy(barge);
        int place = convoy.indexOf(barge);
        if (place == 0) {
            throw new IllegalStateException();
        }
        convoys.remove(convoy);
        convoys.add(new ArrayList<>(convoy.subList(0, place)));
        convoys.add(new ArrayList<>(convoy.subList(place, convoy.size())));
        return place;
    }

    int convoySize(int barge) {
        return convoy(barge).size();
    }

    int convoyAt(int barge, int place) {
        List<Integer> convoy = convoy(barge);
        if (place < 0 || place >= convoy.size()) {
            throw new NoSuchElementException();
        }
        return convoy.get(place);
    }

    private List<List<Integer>> parts(List<Integer> convoy, int lock) {
        List<List<Integer>> parts = new ArrayList<>();
        int left = 0;
        for (int b : convoy) {
            if (parts.isEmpty() || left < barges.get(b).length) {
                parts.add(new ArrayList<>());
                left = locks.get(lock).length;
            }
            parts.get(parts.size() - 1).add(b);
            left -= barges.get(b).length;
        }
        return parts;
    }

    private boolean isTooLong(List<Integer> convoy, int lock) {
        for (int b : convoy) {
            if (barges.get(b).length > locks.get(lock).length) {
                return true;
            }
        }
        return false;
    }

    int partsFor(int barge, int lock) {
        List<Integer> convoy = convoy(barge);
        lock(lock);
        if (isTooLong(convoy, lock)) {
            throw new UnsupportedOperationException();
        }
        return parts(convoy, lock).size();
    }

    int pass(int barge, boolean isDown) {
        int to = reachOf(barge) + (isDown ? 1 : -1);
        if (to < 0 || to >= reaches.size()) {
            throw new NoSuchElementException();
        }
        return reallySail(barge, to);
    }

    int voyage(int barge, int reach) {
        barge(barge);
        reach(reach);
        if (reachOf(barge) == reach) {
            throw new IllegalStateException();
        }
        return reallySail(barge, reach);
    }

    private int reallySail(int barge, int to) {
        PlainRiver copy = new PlainRiver(this);
        int lockings;
        try {
            lockings = copy.sail(barge, to);
        } catch (Refusal refused) {
            refusal = refused;
            throw new UnsupportedOperationException();
        }
        reaches = copy.reaches;
        locks = copy.locks;
        barges = copy.barges;
        moves = copy.moves;
        return lockings;
    }

    private int sail(int barge, int to) {
        int lockings = 0;
        while (reachOf(barge) != to) {
            boolean isDown = reachOf(barge) < to;
            int lock = isDown ? reachOf(barge) : reachOf(barge) - 1;
            List<Integer> convoy = convoy(barge);
            if (isTooLong(convoy, lock)) {
                throw new Refusal(BargeRiver.TOO_LONG, lock);
            }
            for (int b : convoy) {
                if (draughtOf(b) > locks.get(lock).sill) {
                    throw new Refusal(BargeRiver.TOO_DEEP, lock);
                }
            }
            for (List<Integer> part : parts(convoy, lock)) {
                lockThrough(part, lock, isDown);
                lockings++;
            }
        }
        return lockings;
    }

    private void lockThrough(List<Integer> part, int lock, boolean isDown) {
        for (int b : part) {
            if (!isAfloat(b)) {
                throw new Refusal(BargeRiver.AGROUND, lock);
            }
        }
        if (locks.get(lock).isFull && !isDown) {
            emptyChamber(lock);
        }
        if (!locks.get(lock).isFull && !fillChamber(lock)) {
            throw new Refusal(BargeRiver.NO_WATER, lock);
        }
        if (isDown) {
            emptyChamber(lock);
        }
        for (int b : part) {
            barges.get(b).reach = isDown ? lock + 1 : lock;
            if (!isAfloat(b)) {
                throw new Refusal(BargeRiver.SHALLOW, lock);
            }
        }
    }

    boolean isPossible(int barge, int reach) {
        barge(barge);
        reach(reach);
        try {
            new PlainRiver(this).sail(barge, reach);
        } catch (Refusal refused) {
            return false;
        }
        return true;
    }

    int waterFor(int barge, int reach) {
        barge(barge);
        reach(reach);
        PlainRiver copy = new PlainRiver(this);
        try {
            copy.sail(barge, reach);
        } catch (Refusal refused) {
            throw new UnsupportedOperationException();
        }
        int water = 0;
        for (int lock = 0; lock < locks.size(); lock++) {
            water += copy.waterThrough(lock) - waterThrough(lock);
        }
        return water;
    }

    int refusalReason() {
        if (refusal == null) {
            throw new NoSuchElementException();
        }
        return refusal.reason;
    }

    int refusalLock() {
        if (refusal == null) {
            throw new NoSuchElementException();
        }
        return refusal.lock;
    }

    int priceIn(int reach) {
        return reach(reach).price;
    }

    long money() {
        return money;
    }

    long buy(int barge, int tons) {
        Barge b = barge(barge);
        if (tons < 1 || tons > 999) {
            throw new IllegalArgumentException();
        }
        b.cargo += tons;
        boolean isAfloat = isAfloat(barge);
        b.cargo -= tons;
        if (!isAfloat) {
            throw new UnsupportedOperationException();
        }
        if (tons * priceIn(b.reach) > money) {
            throw new IllegalStateException();
        }
        b.cargo += tons;
        money -= tons * priceIn(b.reach);
        return money;
    }

    long sell(int barge, int tons) {
        Barge b = barge(barge);
        if (tons < 1 || tons > 999) {
            throw new IllegalArgumentException();
        }
        if (tons > b.cargo) {
            throw new IllegalStateException();
        }
        b.cargo -= tons;
        money += tons * priceIn(b.reach);
        return money;
    }

    int sellToDraught(int barge, int draught) {
        Barge b = barge(barge);
        if (draught < 1 || draught > 60) {
            throw new IllegalArgumentException();
        }
        if (b.empty > draught) {
            throw new IllegalStateException();
        }
        int sold = 0;
        while (draughtOf(barge) > draught) {
            sell(barge, 1);
            sold++;
        }
        return sold;
    }

    int greatestLoad(int barge) {
        Barge b = barge(barge);
        int load = 0;
        int cargo = b.cargo;
        while (isAfloat(barge)) {
            load++;
            b.cargo++;
        }
        b.cargo = cargo;
        return load == 0 ? 0 : load - 1;
    }

    int worthIn(int barge, int reach) {
        return barge(barge).cargo * reach(reach).price;
    }

    int bestReach(int barge) {
        int best = reachOf(barge);
        for (int reach = reaches.size() - 1; reach >= 0; reach--) {
            if (isPossible(barge, reach) && (worthIn(barge, reach) > worthIn(barge, best)
                    || worthIn(barge, reach) == worthIn(barge, best) && reach < best)) {
                best = reach;
            }
        }
        return best;
    }

    int cameTotal() {
        return sum(BargeRiver.SKY, null);
    }

    int seaTotal() {
        return sum(null, BargeRiver.SEA);
    }

    int airTotal() {
        return sum(null, BargeRiver.AIR);
    }

    int heldTotal() {
        int held = 0;
        for (Reach r : reaches) {
            held += r.volume;
        }
        for (Lock k : locks) {
            held += k.isFull ? k.lockful : 0;
        }
        return held;
    }

    int movementCount() {
        return moves.size();
    }

    int movementFrom(int movement) {
        return move(movement)[0];
    }

    int movementTo(int movement) {
        return move(movement)[1];
    }

    int movementVolume(int movement) {
        return move(movement)[2];
    }

    double meanLevel() {
        double sum = 0;
        for (int reach = 0; reach < reaches.size(); reach++) {
            sum += levelOf(reach);
        }
        return sum / reaches.size();
    }

    boolean isBalanced() {
        boolean isBalanced = cameTotal() == heldTotal() + seaTotal() + airTotal();
        for (int reach = 0; reach < reaches.size(); reach++) {
            isBalanced &= volumeOf(reach) == volumeBySteps(reach);
        }
        return isBalanced;
    }

    int writeReach(int reach) {
        reach(reach);
        line = reach + ": " + levelOf(reach) + "dm";
        for (int b = 0; b < barges.size(); b++) {
            List<Integer> convoy = convoy(b);
            if (convoy.get(0) == b && reachOf(b) == reach) {
                line += " " + convoy.toString().replace("[", "").replace("]", "")
                        .replace(", ", "+");
            }
        }
        return line.length();
    }

    char lineAt(int index) {
        if (index < 0 || index >= line.length()) {
            throw new IndexOutOfBoundsException();
        }
        return line.charAt(index);
    }
}
