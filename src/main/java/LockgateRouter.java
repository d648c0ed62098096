import java.util.ArrayList;

/** A net of canals, basins and barges; ../shared/DOC.md says what it does. */
public final class LockgateRouter {
    private static final int BASINS = 8;
    private static final int MOST_CANALS = 14;
    private static final int MOST_BARGES = 40;
    private static final int MOST_WAITING = 6;
    private static final int MOST_WATER = 200;
    private static final int FIRST_WATER = 60;
    private static final int KEPT_WATER = 5;
    private static final int LOW_WATER = 30;
    private static final int VERY_LOW_WATER = 15;
    private static final int LOW_COST = 5;
    private static final int DRY_DAY_WATER = 3;
    private static final int MOST_LENGTH = 9;
    private static final int MOST_LIFT = 9;
    private static final int FIRST_MARK = 4;
    private static final int MOST_DISTANCE = 40;
    private static final int MOST_LIFE = 20;
    private static final int MOST_AT_ONCE = 50;
    private static final int MOST_TICKS = 2000;
    private static final int NONE = -1;
    private static final int WAITS = 0;
    private static final int ARRIVED = 1;
    private static final int LAID_BY = 2;

    private final Basin[] basins = new Basin[BASINS];
    private final ArrayList<Canal> dug = new ArrayList<>();
    private final ArrayList<Barge> fleet = new ArrayList<>();
    // Kept so that cheapest() makes no array of its own each time it is called.
    private final int[] cheapestSoFar = new int[BASINS];
    private int lostWater;
    private int tickCount;

    public LockgateRouter() {
        for (int i = 0; i < BASINS; i++) {
            basins[i] = new Basin(i);
        }
    }

    // ---- canals and water

    public int dig(int upper, int lower, int length, int lift)
            throws IndexOutOfBoundsException, IllegalArgumentException, IllegalStateException {
        Basin above = basinNumbered(upper);
        Basin below = basinNumbered(lower);
        if (above == below) {
            throw new IllegalArgumentException("a canal goes between two basins");
        }
        requireRange(length, 1, MOST_LENGTH);
        requireRange(lift, 0, MOST_LIFT);
        int number = dug.size();
        if (number >= MOST_CANALS) {
            throw new IllegalStateException("no more canals can be dug");
        }
        dug.add(new Canal(number, above, below, length, lift));
        return number;
    }

    public boolean setGate(int canal, boolean isOpen) throws IndexOutOfBoundsException {
        Canal changed = canalNumbered(canal);
        boolean wasOpen = changed.gateOpen;
        changed.gateOpen = isOpen;
        return wasOpen;
    }

    public int setMark(int basin, int mark) throws IndexOutOfBoundsException, IllegalArgumentException {
        Basin changed = basinNumbered(basin);
        requireRange(mark, 1, MOST_WAITING);
        int before = changed.mark;
        changed.mark = mark;
        return before;
    }

    public int rain(int basin, int water) throws IndexOutOfBoundsException, IllegalArgumentException {
        Basin wet = basinNumbered(basin);
        requireRange(water, 1, MOST_WATER);
        lostWater += wet.fill(water);
        return wet.level;
    }

    public int dry(int days) throws IllegalArgumentException {
        requireRange(days, 1, MOST_AT_ONCE);
        for (int day = 0; day < days; day++) {
            for (int i = 0; i < BASINS; i++) {
                basins[i].loseDryDayWater();
            }
        }
        return countLowBasins();
    }

    // ---- tables and barges

    public int settle(int ticks) throws IllegalArgumentException {
        requireRange(ticks, 1, MOST_AT_ONCE);
        int changed = 0;
        for (int tick = 0; tick < ticks; tick++) {
            prepareNextTables();
            changed = countNextChanges();
            for (int i = 0; i < BASINS; i++) {
                basins[i].turnTable();
            }
        }
        return changed;
    }

    public int setOut(int basin, int destination, int life)
            throws IndexOutOfBoundsException, IllegalArgumentException, IllegalStateException {
        Basin start = basinNumbered(basin);
        Basin goal = basinNumbered(destination);
        requireRange(life, 1, MOST_LIFE);
        int number = fleet.size();
        if (number >= MOST_BARGES || (start != goal && start.isFull())) {
            throw new IllegalStateException("no more barges can set out here");
        }
        Barge barge = new Barge(number, start, goal, life);
        fleet.add(barge);
        if (start == goal) {
            barge.condition = ARRIVED;
        } else {
            start.waiting.add(barge);
        }
        return number;
    }

    public int move(int ticks) throws IllegalArgumentException, IllegalStateException {
        requireRange(ticks, 1, MOST_AT_ONCE);
        if (ticks > MOST_TICKS - tickCount) {
            throw new IllegalStateException("too many ticks");
        }
        int sent = 0;
        for (int tick = 0; tick < ticks; tick++) {
            sent += tickBarges();
        }
        return sent;
    }

    // ---- water and canals as they are; nothing from here on changes anything

    public int canals() {
        return dug.size();
    }

    public int water(int basin) throws IndexOutOfBoundsException {
        return basinNumbered(basin).level;
    }

    public int allWater() {
        int sum = 0;
        for (int i = 0; i < BASINS; i++) {
            sum += basins[i].level;
        }
        return sum;
    }

    public int spilt() {
        return lostWater;
    }

    public int cost(int canal) throws IndexOutOfBoundsException {
        return canalNumbered(canal).costNow();
    }

    public boolean canPass(int canal) throws IndexOutOfBoundsException {
        return canalNumbered(canal).isPassable();
    }

    // ---- tables as they are

    public int distance(int basin, int other) throws IndexOutOfBoundsException {
        Basin asked = basinNumbered(basin);
        return asked.table.distances[basinNumbered(other).number];
    }

    public int canalTo(int basin, int other) throws IndexOutOfBoundsException {
        Basin asked = basinNumbered(basin);
        Canal canal = asked.canalTowards(basinNumbered(other));
        return canal == null ? NONE : canal.number;
    }

    public boolean areStill() {
        prepareNextTables();
        return countNextChanges() == 0;
    }

    public int cheapest(int basin, int other) throws IndexOutOfBoundsException {
        Basin from = basinNumbered(basin);
        Basin to = basinNumbered(other);
        findCheapestWays(from);
        int least = cheapestSoFar[to.number];
        return least > MOST_DISTANCE ? NONE : least;
    }

    public boolean isLoop(int basin, int other) throws IndexOutOfBoundsException {
        Basin from = basinNumbered(basin);
        return goesRound(from, basinNumbered(other));
    }

    public int loops() {
        int count = 0;
        for (int from = 0; from < BASINS; from++) {
            for (int to = 0; to < BASINS; to++) {
                if (goesRound(basins[from], basins[to])) {
                    count++;
                }
            }
        }
        return count;
    }

    // ---- barges as they are

    public int barges() {
        return fleet.size();
    }

    public int ticks() {
        return tickCount;
    }

    public int state(int barge) throws IndexOutOfBoundsException {
        return bargeNumbered(barge).condition;
    }

    public int basinOf(int barge) throws IndexOutOfBoundsException {
        return bargeNumbered(barge).place.number;
    }

    public int hops(int barge) throws IndexOutOfBoundsException {
        return bargeNumbered(barge).hopsMade;
    }

    public int life(int barge) throws IndexOutOfBoundsException {
        return bargeNumbered(barge).lifeLeft;
    }

    public int repeats(int barge) throws IndexOutOfBoundsException {
        return bargeNumbered(barge).repeatsMade;
    }

    public int queue(int basin) throws IndexOutOfBoundsException {
        return basinNumbered(basin).waiting.size();
    }

    public int queued(int basin, int place) throws IndexOutOfBoundsException, IllegalArgumentException {
        Basin asked = basinNumbered(basin);
        if (place < 0) {
            throw new IllegalArgumentException("places begin at 0");
        }
        return place < asked.waiting.size() ? asked.waiting.get(place).number : NONE;
    }

    public int laidBy() {
        int count = 0;
        for (int i = 0; i < fleet.size(); i++) {
            if (fleet.get(i).condition == LAID_BY) {
                count++;
            }
        }
        return count;
    }

    // ---- what the calls above share

    private Basin basinNumbered(int number) {
        if (number < 0 || number >= BASINS) {
            throw new IndexOutOfBoundsException("no such basin");
        }
        return basins[number];
    }

    private Canal canalNumbered(int number) {
        if (number < 0 || number >= dug.size()) {
            throw new IndexOutOfBoundsException("no such canal");
        }
        return dug.get(number);
    }

    private Barge bargeNumbered(int number) {
        if (number < 0 || number >= fleet.size()) {
            throw new IndexOutOfBoundsException("no such barge");
        }
        return fleet.get(number);
    }

    private static void requireRange(int value, int least, int most) {
        if (value < least || value > most) {
            throw new IllegalArgumentException("a number is out of range");
        }
    }

    private int countLowBasins() {
        int count = 0;
        for (int i = 0; i < BASINS; i++) {
            if (basins[i].level < LOW_WATER) {
                count++;
            }
        }
        return count;
    }

    private void prepareNextTables() {
        for (int i = 0; i < BASINS; i++) {
            basins[i].nextTable.clearFor(i);
        }
        // By rising numbers, so that of several canals with the least sum the lowest one stays.
        for (int i = 0; i < dug.size(); i++) {
            Canal canal = dug.get(i);
            if (canal.gateOpen) {
                canal.upper.hearNeighbour(canal.lower, canal);
                canal.lower.hearNeighbour(canal.upper, canal);
            }
        }
    }

    private int countNextChanges() {
        int count = 0;
        for (int i = 0; i < BASINS; i++) {
            count += basins[i].table.countDifferences(basins[i].nextTable);
        }
        return count;
    }

    private void findCheapestWays(Basin from) {
        for (int i = 0; i < BASINS; i++) {
            cheapestSoFar[i] = NONE;
        }
        cheapestSoFar[from.number] = 0;
        // A cheapest way has fewer canals than there are basins.
        for (int round = 1; round < BASINS; round++) {
            for (int i = 0; i < dug.size(); i++) {
                Canal canal = dug.get(i);
                if (canal.gateOpen) {
                    extendWay(canal.upper, canal.lower, canal.costNow());
                    extendWay(canal.lower, canal.upper, canal.costNow());
                }
            }
        }
    }

    private void extendWay(Basin from, Basin to, int price) {
        int begun = cheapestSoFar[from.number];
        if (begun == NONE) {
            return;
        }
        int known = cheapestSoFar[to.number];
        if (known == NONE || begun + price < known) {
            cheapestSoFar[to.number] = begun + price;
        }
    }

    private static boolean goesRound(Basin from, Basin to) {
        Basin at = from;
        for (int steps = 0; steps < BASINS; steps++) {
            if (at == to) {
                return false;
            }
            Canal canal = at.canalTowards(to);
            if (canal == null) {
                return false;
            }
            at = canal.otherEnd(at);
        }
        // As many steps as there are basins, none of them from the goal: one basin came twice.
        return true;
    }

    private int tickBarges() {
        tickCount++;
        int sent = 0;
        for (int i = 0; i < BASINS; i++) {
            if (sendFirst(basins[i])) {
                sent++;
            }
        }
        return sent;
    }

    private boolean sendFirst(Basin from) {
        if (from.waiting.isEmpty()) {
            return false;
        }
        Barge barge = from.waiting.get(0);
        if (barge.cameInTick == tickCount) {
            return false;
        }
        Canal canal = from.canalTowards(barge.destination);
        if (canal == null || !canal.isPassable()) {
            return false;
        }
        Basin to = canal.otherEnd(from);
        if (!takesIn(to, barge)) {
            return false;
        }
        from.waiting.remove(0);
        lostWater += canal.lockThrough();
        barge.comeTo(to, tickCount);
        if (barge.condition == WAITS) {
            to.waiting.add(barge);
        }
        return true;
    }

    private boolean takesIn(Basin basin, Barge barge) {
        if (basin == barge.destination) {
            return true;
        }
        if (basin.isFull()) {
            return false;
        }
        return basin.waiting.size() < basin.mark || tickCount % 2 == 0;
    }

    private static final class Basin {
        final int number;
        final ArrayList<Barge> waiting = new ArrayList<>();
        int level = FIRST_WATER;
        int mark = FIRST_MARK;
        Table table = new Table();
        Table nextTable = new Table();

        Basin(int number) {
            this.number = number;
            table.clearFor(number);
        }

        boolean isFull() {
            return waiting.size() >= MOST_WAITING;
        }

        int costOfLowWater() {
            if (level < VERY_LOW_WATER) {
                return 2 * LOW_COST;
            }
            return level < LOW_WATER ? LOW_COST : 0;
        }

        /** Returns how much of the added water is lost. */
        int fill(int added) {
            int lost = Math.max(0, level + added - MOST_WATER);
            level += added - lost;
            return lost;
        }

        void loseDryDayWater() {
            level = Math.max(KEPT_WATER, level - DRY_DAY_WATER);
        }

        /** Returns null if the table has no canal for that basin. */
        Canal canalTowards(Basin other) {
            return table.canals[other.number];
        }

        void hearNeighbour(Basin neighbour, Canal canal) {
            int price = canal.costNow();
            for (int other = 0; other < BASINS; other++) {
                int told = neighbour.table.distances[other];
                if (other != number && told != NONE) {
                    nextTable.offer(other, told + price, canal);
                }
            }
        }

        void turnTable() {
            // The old table is used again for the next tick, so that no tick makes a new one.
            Table old = table;
            table = nextTable;
            nextTable = old;
        }
    }

    /** What one basin has for each of the basins. */
    private static final class Table {
        final int[] distances = new int[BASINS];
        final Canal[] canals = new Canal[BASINS];

        void clearFor(int owner) {
            for (int i = 0; i < BASINS; i++) {
                distances[i] = i == owner ? 0 : NONE;
                canals[i] = null;
            }
        }

        void offer(int other, int distance, Canal canal) {
            if (distance > MOST_DISTANCE) {
                return;
            }
            if (distances[other] == NONE || distance < distances[other]) {
                distances[other] = distance;
                canals[other] = canal;
            }
        }

        int countDifferences(Table that) {
            int count = 0;
            for (int i = 0; i < BASINS; i++) {
                if (distances[i] != that.distances[i] || canals[i] != that.canals[i]) {
                    count++;
                }
            }
            return count;
        }
    }

    private static final class Canal {
        final int number;
        final Basin upper;
        final Basin lower;
        final int length;
        final int lift;
        boolean gateOpen = true;

        Canal(int number, Basin upper, Basin lower, int length, int lift) {
            this.number = number;
            this.upper = upper;
            this.lower = lower;
            this.length = length;
            this.lift = lift;
        }

        int costNow() {
            return length + upper.costOfLowWater() + lower.costOfLowWater();
        }

        boolean isPassable() {
            return gateOpen && upper.level >= lift + KEPT_WATER;
        }

        Basin otherEnd(Basin end) {
            return end == upper ? lower : upper;
        }

        /** Returns how much of the lock's water is lost. */
        int lockThrough() {
            upper.level -= lift;
            return lower.fill(lift);
        }
    }

    private static final class Barge {
        final int number;
        final Basin destination;
        final boolean[] wasIn = new boolean[BASINS];
        Basin place;
        int lifeLeft;
        int hopsMade;
        int repeatsMade;
        int condition = WAITS;
        // Ticks are counted from 1 on: 0 is the tick of none.
        int cameInTick;

        Barge(int number, Basin start, Basin destination, int life) {
            this.number = number;
            this.destination = destination;
            place = start;
            wasIn[start.number] = true;
            lifeLeft = life;
        }

        void comeTo(Basin basin, int tick) {
            place = basin;
            cameInTick = tick;
            hopsMade++;
            lifeLeft--;
            if (wasIn[basin.number]) {
                repeatsMade++;
            }
            wasIn[basin.number] = true;
            if (basin == destination) {
                condition = ARRIVED;
            } else if (lifeLeft == 0) {
                condition = LAID_BY;
            }
        }
    }
}
