import java.util.Arrays;
import java.util.NoSuchElementException;

/** A river with locks, on which convoys of barges carry cargo. */
public final class BargeRiver {
    public static final int TOO_LONG = 1, TOO_DEEP = 2, AGROUND = 3, NO_WATER = 4, SHALLOW = 5;
    public static final int SKY = -1, SEA = -2, AIR = -3, CHAMBER = 10;

    private static final int NO_REASON = 0;
    private static final int MOST_REACHES = 6;
    private static final int MOST_LOCKS = MOST_REACHES - 1;
    private static final int MOST_BARGES = 8;
    private static final int MOST_COUPLED = 4;
    private static final int HIGHEST_LEVEL = 60;
    private static final int FIRST_AREA = 20;
    private static final int FIRST_LEVEL = 30;
    private static final int FIRST_PRICE = 100;
    private static final int LOWEST_PRICE = 1;
    private static final int HIGHEST_PRICE = 9999;
    private static final long FIRST_MONEY = 10000;

    private final Water water;
    private final int[] lengths;
    private final int[] sills;
    private final int[] prices;
    private final int[] weekLevels;
    private final Barge[] barges;
    private final StringBuilder line;
    private int bargesMade;
    private int weeks;
    private long purse;
    private int triedReason;
    private int triedLock;
    private int lastReason;
    private int lastLock;

    public BargeRiver() {
        water = new Water();
        lengths = new int[MOST_LOCKS];
        sills = new int[MOST_LOCKS];
        prices = new int[MOST_REACHES];
        weekLevels = new int[MOST_REACHES];
        barges = new Barge[MOST_BARGES];
        line = new StringBuilder();
        purse = FIRST_MONEY;
        lastReason = NO_REASON;
        openReach(FIRST_AREA, FIRST_LEVEL);
    }

    // ---- reaches and locks

    public int addReach(int area, int level, int lockful, int length, int sill)
            throws IllegalArgumentException, IllegalStateException {
        if (!isWithin(area, 1, 50) || !isWithin(level, 0, HIGHEST_LEVEL)
                || !isWithin(lockful, 1, 200) || !isWithin(length, 10, 200)
                || !isWithin(sill, 5, 60)) {
            throw new IllegalArgumentException("an argument is out of range");
        }
        if (water.reaches >= MOST_REACHES) {
            throw new IllegalStateException("there are 6 reaches");
        }
        int lock = water.reaches - 1;
        water.lockfuls[lock] = lockful;
        lengths[lock] = length;
        sills[lock] = sill;
        return openReach(area, level);
    }

    public int reachCount() {
        return water.reaches;
    }

    public int areaOf(int reach) throws IndexOutOfBoundsException {
        needReach(reach);
        return water.areas[reach];
    }

    public int volumeOf(int reach) throws IndexOutOfBoundsException {
        needReach(reach);
        return water.at(reach);
    }

    public int volumeBySteps(int reach) throws IndexOutOfBoundsException {
        needReach(reach);
        return water.movements.balanceOf(reach);
    }

    public int levelOf(int reach) throws IndexOutOfBoundsException {
        needReach(reach);
        return water.level(reach);
    }

    public int lockfulOf(int lock) throws IndexOutOfBoundsException {
        needLock(lock);
        return water.lockfuls[lock];
    }

    public int lengthOf(int lock) throws IndexOutOfBoundsException {
        needLock(lock);
        return lengths[lock];
    }

    public int sillOf(int lock) throws IndexOutOfBoundsException {
        needLock(lock);
        return sills[lock];
    }

    public boolean isFull(int lock) throws IndexOutOfBoundsException {
        needLock(lock);
        return water.hasFullChamber(lock);
    }

    public boolean turn(int lock) throws IndexOutOfBoundsException, UnsupportedOperationException {
        needLock(lock);
        if (water.hasFullChamber(lock)) {
            water.empty(lock);
            return false;
        }
        if (!water.canFill(lock)) {
            throw new UnsupportedOperationException("the upper reach has too little water");
        }
        water.fill(lock);
        return true;
    }

    public int waterThrough(int lock) throws IndexOutOfBoundsException {
        needLock(lock);
        return water.through[lock];
    }

    public int rain(int reach, int volume)
            throws IndexOutOfBoundsException, IllegalArgumentException {
        needReach(reach);
        if (!isWithin(volume, 1, 5000)) {
            throw new IllegalArgumentException("the volume is out of range");
        }
        int before = water.at(SEA);
        water.send(SKY, reach, volume);
        return water.at(SEA) - before;
    }

    public int endWeek() {
        for (int reach = 0; reach < water.reaches; reach++) {
            water.send(reach, AIR, Math.min(water.areas[reach], water.at(reach)));
        }
        int higher = 0;
        for (int reach = 0; reach < water.reaches; reach++) {
            int before = prices[reach];
            int level = water.level(reach);
            prices[reach] = changedPrice(before, weekLevels[reach], level);
            weekLevels[reach] = level;
            if (prices[reach] > before) {
                higher++;
            }
        }
        weeks++;
        return higher;
    }

    public int weekCount() {
        return weeks;
    }

    // ---- barges and convoys

    public int addBarge(int reach, int length, int draught, int tonsPerDecimetre)
            throws IndexOutOfBoundsException, IllegalArgumentException, IllegalStateException,
            UnsupportedOperationException {
        needReach(reach);
        if (!isWithin(length, 5, 80) || !isWithin(draught, 2, 20)
                || !isWithin(tonsPerDecimetre, 1, 20)) {
            throw new IllegalArgumentException("a measure of the barge is out of range");
        }
        if (bargesMade >= MOST_BARGES) {
            throw new IllegalStateException("there are 8 barges");
        }
        if (draught >= water.level(reach)) {
            throw new UnsupportedOperationException("the barge would not be afloat");
        }
        int number = bargesMade;
        barges[number] = new Barge(number, reach, length, draught, tonsPerDecimetre);
        bargesMade++;
        return number;
    }

    public int bargeCount() {
        return bargesMade;
    }

    public int reachOf(int barge) throws IndexOutOfBoundsException {
        return bargeNumbered(barge).reach;
    }

    public int cargoOf(int barge) throws IndexOutOfBoundsException {
        return bargeNumbered(barge).cargo;
    }

    public int draughtOf(int barge) throws IndexOutOfBoundsException {
        return bargeNumbered(barge).draught();
    }

    public boolean isAfloat(int barge) throws IndexOutOfBoundsException {
        return floatsWith(bargeNumbered(barge), 0);
    }

    public int couple(int front, int back)
            throws IndexOutOfBoundsException, IllegalArgumentException, IllegalStateException {
        Barge first = bargeNumbered(front).first();
        Barge second = bargeNumbered(back).first();
        if (first == second) {
            throw new IllegalArgumentException("both are in the same convoy");
        }
        int size = first.chainSize() + second.chainSize();
        if (first.reach != second.reach || size > MOST_COUPLED) {
            throw new IllegalStateException("the convoys cannot become one");
        }
        Barge last = first.last();
        last.behind = second;
        second.ahead = last;
        return size;
    }

    public int uncouple(int barge) throws IndexOutOfBoundsException, IllegalStateException {
        Barge split = bargeNumbered(barge);
        Barge ahead = split.ahead;
        if (ahead == null) {
            throw new IllegalStateException("the barge is the first one of its convoy");
        }
        ahead.behind = null;
        split.ahead = null;
        return ahead.first().chainSize();
    }

    public int convoySize(int barge) throws IndexOutOfBoundsException {
        return bargeNumbered(barge).first().chainSize();
    }

    public int convoyAt(int barge, int place)
            throws IndexOutOfBoundsException, NoSuchElementException {
        int here = 0;
        for (Barge b = bargeNumbered(barge).first(); b != null; b = b.behind) {
            if (here == place) {
                return b.number;
            }
            here++;
        }
        throw new NoSuchElementException("the convoy has no such place");
    }

    public int partsFor(int barge, int lock)
            throws IndexOutOfBoundsException, UnsupportedOperationException {
        Barge first = bargeNumbered(barge).first();
        needLock(lock);
        if (first.greatestLength() > lengths[lock]) {
            throw new UnsupportedOperationException("a barge is longer than the lock");
        }
        return first.parts(lengths[lock]);
    }

    // ---- passages

    public int pass(int barge, boolean isDown)
            throws IndexOutOfBoundsException, NoSuchElementException,
            UnsupportedOperationException {
        Barge first = bargeNumbered(barge).first();
        int to = isDown ? first.reach + 1 : first.reach - 1;
        if (to < 0 || to >= water.reaches) {
            throw new NoSuchElementException("there is no lock in this direction");
        }
        return carry(first, to);
    }

    public int voyage(int barge, int reach)
            throws IndexOutOfBoundsException, IllegalStateException, UnsupportedOperationException {
        Barge first = bargeNumbered(barge).first();
        needReach(reach);
        if (first.reach == reach) {
            throw new IllegalStateException("the convoy is in this reach");
        }
        return carry(first, reach);
    }

    public boolean isPossible(int barge, int reach) throws IndexOutOfBoundsException {
        Barge first = bargeNumbered(barge).first();
        needReach(reach);
        return canReach(first, reach);
    }

    public int waterFor(int barge, int reach)
            throws IndexOutOfBoundsException, UnsupportedOperationException {
        Barge first = bargeNumbered(barge).first();
        needReach(reach);
        int before = water.throughTotal();
        water.save();
        boolean arrives = tryVoyage(first, reach);
        int through = water.throughTotal() - before;
        water.restore();
        if (!arrives) {
            throw new UnsupportedOperationException("the voyage would be refused");
        }
        return through;
    }

    public int refusalReason() throws NoSuchElementException {
        needRefusal();
        return lastReason;
    }

    public int refusalLock() throws NoSuchElementException {
        needRefusal();
        return lastLock;
    }

    // ---- trade

    public int priceIn(int reach) throws IndexOutOfBoundsException {
        needReach(reach);
        return prices[reach];
    }

    public long money() {
        return purse;
    }

    public long buy(int barge, int tons)
            throws IndexOutOfBoundsException, IllegalArgumentException,
            UnsupportedOperationException, IllegalStateException {
        Barge buyer = bargeNumbered(barge);
        needTons(tons);
        if (!floatsWith(buyer, tons)) {
            throw new UnsupportedOperationException("the barge would not be afloat");
        }
        long cost = (long) tons * prices[buyer.reach];
        if (cost > purse) {
            throw new IllegalStateException("there is not enough money");
        }
        buyer.cargo += tons;
        purse -= cost;
        return purse;
    }

    public long sell(int barge, int tons)
            throws IndexOutOfBoundsException, IllegalArgumentException, IllegalStateException {
        Barge seller = bargeNumbered(barge);
        needTons(tons);
        if (seller.cargo < tons) {
            throw new IllegalStateException("the barge has less cargo");
        }
        unload(seller, tons);
        return purse;
    }

    public int sellToDraught(int barge, int draught)
            throws IndexOutOfBoundsException, IllegalArgumentException, IllegalStateException {
        Barge seller = bargeNumbered(barge);
        if (!isWithin(draught, 1, 60)) {
            throw new IllegalArgumentException("the draught is out of range");
        }
        if (seller.emptyDraught > draught) {
            throw new IllegalStateException("the empty draught is greater");
        }
        int tons = Math.max(0, seller.cargo - seller.greatestCargo(draught));
        unload(seller, tons);
        return tons;
    }

    public int greatestLoad(int barge) throws IndexOutOfBoundsException {
        Barge b = bargeNumbered(barge);
        if (!floatsWith(b, 0)) {
            return 0;
        }
        return b.greatestCargo(water.level(b.reach) - 1) - b.cargo;
    }

    public int worthIn(int barge, int reach) throws IndexOutOfBoundsException {
        Barge b = bargeNumbered(barge);
        needReach(reach);
        return b.cargo * prices[reach];
    }

    public int bestReach(int barge) throws IndexOutOfBoundsException {
        Barge seller = bargeNumbered(barge);
        Barge first = seller.first();
        int best = seller.reach;
        int most = -1;
        for (int reach = 0; reach < water.reaches; reach++) {
            int worth = seller.cargo * prices[reach];
            if (worth > most && canReach(first, reach)) {
                best = reach;
                most = worth;
            }
        }
        return best;
    }

    // ---- accounts of water

    public int cameTotal() {
        return -water.at(SKY);
    }

    public int seaTotal() {
        return water.at(SEA);
    }

    public int airTotal() {
        return water.at(AIR);
    }

    public int heldTotal() {
        int total = 0;
        for (int reach = 0; reach < water.reaches; reach++) {
            total += water.at(reach);
        }
        for (int lock = 0; lock < water.reaches - 1; lock++) {
            total += water.at(CHAMBER + lock);
        }
        return total;
    }

    public int movementCount() {
        return water.movements.count;
    }

    public int movementFrom(int movement) throws IndexOutOfBoundsException {
        needMovement(movement);
        return water.movements.froms[movement];
    }

    public int movementTo(int movement) throws IndexOutOfBoundsException {
        needMovement(movement);
        return water.movements.tos[movement];
    }

    public int movementVolume(int movement) throws IndexOutOfBoundsException {
        needMovement(movement);
        return water.movements.volumes[movement];
    }

    public double meanLevel() {
        int sum = 0;
        for (int reach = 0; reach < water.reaches; reach++) {
            sum += water.level(reach);
        }
        return (double) sum / (double) water.reaches;
    }

    public boolean isBalanced() {
        if (cameTotal() != heldTotal() + seaTotal() + airTotal()) {
            return false;
        }
        for (int reach = 0; reach < water.reaches; reach++) {
            if (volumeOf(reach) != volumeBySteps(reach)) {
                return false;
            }
        }
        return true;
    }

    // ---- line

    public int writeReach(int reach) throws IndexOutOfBoundsException {
        needReach(reach);
        line.setLength(0);
        line.append(reach).append(": ").append(water.level(reach)).append("dm");
        for (Barge b : barges) {
            if (b != null && b.reach == reach && b.ahead == null) {
                line.append(' ');
                appendConvoy(b);
            }
        }
        return line.length();
    }

    public char lineAt(int index) throws IndexOutOfBoundsException {
        if (index < 0 || index >= line.length()) {
            throw new IndexOutOfBoundsException("the line has no such character");
        }
        return line.charAt(index);
    }

    // ---- what the calls are made of

    private static boolean isWithin(int value, int least, int most) {
        return value >= least && value <= most;
    }

    private void needReach(int reach) {
        if (reach < 0 || reach >= water.reaches) {
            throw new IndexOutOfBoundsException("there is no such reach");
        }
    }

    private void needLock(int lock) {
        if (lock < 0 || lock >= water.reaches - 1) {
            throw new IndexOutOfBoundsException("there is no such lock");
        }
    }

    private void needMovement(int movement) {
        if (movement < 0 || movement >= water.movements.count) {
            throw new IndexOutOfBoundsException("there is no such movement");
        }
    }

    private void needRefusal() {
        if (lastReason == NO_REASON) {
            throw new NoSuchElementException("no passage was refused so far");
        }
    }

    private static void needTons(int tons) {
        if (!isWithin(tons, 1, 999)) {
            throw new IllegalArgumentException("the number of tons is out of range");
        }
    }

    private Barge bargeNumbered(int barge) {
        Barge found = barge < 0 || barge >= MOST_BARGES ? null : barges[barge];
        if (found == null) {
            throw new IndexOutOfBoundsException("there is no such barge");
        }
        return found;
    }

    private int openReach(int area, int level) {
        int reach = water.addBed(area);
        water.send(SKY, reach, area * level);
        prices[reach] = FIRST_PRICE;
        weekLevels[reach] = level;
        return reach;
    }

    private static int changedPrice(int price, int levelBefore, int level) {
        int tenth = (price + 9) / 10;
        if (level < levelBefore) {
            return Math.min(price + tenth, HIGHEST_PRICE);
        }
        if (level > levelBefore) {
            return Math.max(price - tenth, LOWEST_PRICE);
        }
        return price;
    }

    private boolean floatsWith(Barge barge, int moreTons) {
        return barge.draughtWith(barge.cargo + moreTons) < water.level(barge.reach);
    }

    private void unload(Barge seller, int tons) {
        seller.cargo -= tons;
        purse += (long) tons * prices[seller.reach];
    }

    private void appendConvoy(Barge first) {
        line.append(first.number);
        for (Barge b = first.behind; b != null; b = b.behind) {
            line.append('+').append(b.number);
        }
    }

    private int carry(Barge first, int to) {
        water.save();
        if (!tryVoyage(first, to)) {
            water.restore();
            lastReason = triedReason;
            lastLock = triedLock;
            throw new UnsupportedOperationException("the passage is refused");
        }
        int lockings = 0;
        for (int lock = Math.min(first.reach, to); lock < Math.max(first.reach, to); lock++) {
            lockings += first.parts(lengths[lock]);
        }
        for (Barge b = first; b != null; b = b.behind) {
            b.reach = to;
        }
        return lockings;
    }

    private boolean canReach(Barge first, int to) {
        water.save();
        boolean arrives = tryVoyage(first, to);
        water.restore();
        return arrives;
    }

    /**
     * Moves the water of a voyage and no barge. If one of its passages is refused, those before it
     * have moved water all the same, so the caller saves the water before and restores it then.
     */
    private boolean tryVoyage(Barge first, int to) {
        int from = first.reach;
        boolean isDown = to > from;
        int passages = Math.abs(to - from);
        for (int i = 0; i < passages; i++) {
            int lock = isDown ? from + i : from - 1 - i;
            int reason = tryPassage(first, lock, isDown);
            if (reason != NO_REASON) {
                triedReason = reason;
                triedLock = lock;
                return false;
            }
        }
        return true;
    }

    /**
     * Moves the water of a passage and no barge, and returns the reason for which it is refused.
     * As with a voyage, the parts before the refused one have moved water all the same.
     */
    private int tryPassage(Barge first, int lock, boolean isDown) {
        int length = lengths[lock];
        if (first.greatestLength() > length) {
            return TOO_LONG;
        }
        if (first.greatestDraught(null) > sills[lock]) {
            return TOO_DEEP;
        }
        int from = isDown ? lock : lock + 1;
        int to = isDown ? lock + 1 : lock;
        for (Barge part = first; part != null; part = part.nextPart(length)) {
            int draught = part.greatestDraught(part.nextPart(length));
            if (draught >= water.level(from)) {
                return AGROUND;
            }
            if (!isDown && water.hasFullChamber(lock)) {
                water.empty(lock);
            }
            if (!water.hasFullChamber(lock)) {
                if (!water.canFill(lock)) {
                    return NO_WATER;
                }
                water.fill(lock);
            }
            if (isDown) {
                water.empty(lock);
            }
            if (draught >= water.level(to)) {
                return SHALLOW;
            }
        }
        return NO_REASON;
    }

    /** A barge; its convoy is the chain of barges ahead of it and behind it. */
    private static final class Barge {
        private final int number;
        private final int length;
        private final int emptyDraught;
        private final int tonsPerDecimetre;
        private int reach;
        private int cargo;
        private Barge ahead;
        private Barge behind;

        Barge(int number, int reach, int length, int emptyDraught, int tonsPerDecimetre) {
            this.number = number;
            this.reach = reach;
            this.length = length;
            this.emptyDraught = emptyDraught;
            this.tonsPerDecimetre = tonsPerDecimetre;
        }

        int draught() {
            return draughtWith(cargo);
        }

        /** The divisor is never below 1; LANGUAGE.md asks that each one is looked at. */
        int draughtWith(int tons) {
            if (tonsPerDecimetre < 1) {
                return emptyDraught;
            }
            return emptyDraught + (tons + tonsPerDecimetre - 1) / tonsPerDecimetre;
        }

        int greatestCargo(int draught) {
            return (draught - emptyDraught) * tonsPerDecimetre;
        }

        Barge first() {
            Barge b = this;
            while (b.ahead != null) {
                b = b.ahead;
            }
            return b;
        }

        Barge last() {
            Barge b = this;
            while (b.behind != null) {
                b = b.behind;
            }
            return b;
        }

        int chainSize() {
            int size = 0;
            for (Barge b = this; b != null; b = b.behind) {
                size++;
            }
            return size;
        }

        int greatestLength() {
            int greatest = 0;
            for (Barge b = this; b != null; b = b.behind) {
                greatest = Math.max(greatest, b.length);
            }
            return greatest;
        }

        /** Of the barges from this one on and before the end, which is null for all of them. */
        int greatestDraught(Barge end) {
            int greatest = 0;
            for (Barge b = this; b != null && b != end; b = b.behind) {
                greatest = Math.max(greatest, b.draught());
            }
            return greatest;
        }

        /** The barge that does not fit behind this one any more; this one itself always counts. */
        Barge nextPart(int lockLength) {
            int used = length;
            Barge b = behind;
            while (b != null && used + b.length <= lockLength) {
                used += b.length;
                b = b.behind;
            }
            return b;
        }

        int parts(int lockLength) {
            int parts = 0;
            for (Barge b = this; b != null; b = b.nextPart(lockLength)) {
                parts++;
            }
            return parts;
        }
    }

    /** The water of all places. */
    private static final class Water {
        private static final int PLACES = CHAMBER + MOST_LOCKS - AIR;

        private final int[] areas = new int[MOST_REACHES];
        private final int[] lockfuls = new int[MOST_LOCKS];
        private final int[] amounts = new int[PLACES];
        private final int[] through = new int[MOST_LOCKS];
        private final int[] savedAmounts = new int[PLACES];
        private final int[] savedThrough = new int[MOST_LOCKS];
        private final Movements movements = new Movements();
        private int savedMovements;
        private int reaches;

        int addBed(int area) {
            int reach = reaches;
            areas[reach] = area;
            reaches++;
            return reach;
        }

        /** The sky's is below 0, because all water comes from there. */
        int at(int place) {
            return amounts[place - AIR];
        }

        /** The area is never below 1; LANGUAGE.md asks that each divisor is looked at. */
        int level(int reach) {
            int area = areas[reach];
            return area < 1 ? 0 : at(reach) / area;
        }

        boolean hasFullChamber(int lock) {
            return at(CHAMBER + lock) > 0;
        }

        boolean canFill(int lock) {
            return at(lock) >= lockfuls[lock];
        }

        void fill(int lock) {
            send(lock, CHAMBER + lock, lockfuls[lock]);
        }

        void empty(int lock) {
            through[lock] += lockfuls[lock];
            send(CHAMBER + lock, lock + 1, lockfuls[lock]);
        }

        /** Moves water from a place to another, and what a reach cannot hold further down. */
        void send(int from, int to, int volume) {
            int source = from;
            int place = to;
            int moving = volume;
            for (int step = 0; step <= MOST_REACHES && moving > 0; step++) {
                amounts[source - AIR] -= moving;
                amounts[place - AIR] += moving;
                movements.add(source, place, moving);
                moving = excess(place);
                source = place;
                place = place + 1 < reaches ? place + 1 : SEA;
            }
        }

        int excess(int place) {
            if (place < 0 || place >= reaches) {
                return 0;
            }
            return amounts[place - AIR] - HIGHEST_LEVEL * areas[place];
        }

        int throughTotal() {
            int total = 0;
            for (int lock = 0; lock < MOST_LOCKS; lock++) {
                total += through[lock];
            }
            return total;
        }

        void save() {
            System.arraycopy(amounts, 0, savedAmounts, 0, PLACES);
            System.arraycopy(through, 0, savedThrough, 0, MOST_LOCKS);
            savedMovements = movements.count;
        }

        void restore() {
            System.arraycopy(savedAmounts, 0, amounts, 0, PLACES);
            System.arraycopy(savedThrough, 0, through, 0, MOST_LOCKS);
            movements.count = savedMovements;
        }
    }

    /** The record of all movements of water. */
    private static final class Movements {
        private static final int AT_FIRST = 256;
        // 512 calls make 51201 at most: a voyage of 4 parts through 5 locks makes 100
        private static final int AT_MOST = 65536;

        private int[] froms = new int[AT_FIRST];
        private int[] tos = new int[AT_FIRST];
        private int[] volumes = new int[AT_FIRST];
        private int count;

        void add(int from, int to, int volume) {
            if (count >= AT_MOST) {
                return;
            }
            if (count >= froms.length) {
                int size = 2 * froms.length;
                froms = Arrays.copyOf(froms, size);
                tos = Arrays.copyOf(tos, size);
                volumes = Arrays.copyOf(volumes, size);
            }
            froms[count] = from;
            tos[count] = to;
            volumes[count] = volume;
            count++;
        }

        int balanceOf(int place) {
            int balance = 0;
            for (int i = 0; i < count; i++) {
                if (tos[i] == place) {
                    balance += volumes[i];
                }
                if (froms[i] == place) {
                    balance -= volumes[i];
                }
            }
            return balance;
        }
    }
}
