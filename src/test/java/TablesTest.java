/** Promises 7 and 16 to 21: tables, cheapest ways and loops. */
public final class TablesTest {
    private static final Checks CHECKS = new Checks();
    private static final int[] NO_BASINS = {-1, 8, Integer.MIN_VALUE, Integer.MAX_VALUE};

    public static void main(String[] args) {
        promise7AllAtOnce();
        promise7CountsOfChanges();
        promise7LowestCanal();
        promise7NoFurtherThan40();
        promise7ForgetsAndDearer();
        promise7Refuses();
        promise16Distance();
        promise17CanalTo();
        promise18AreStill();
        promise19Cheapest();
        promise19CheapestNoFurtherThan40();
        promise20IsLoop();
        promise21Loops();
        CHECKS.end("TablesTest");
    }

    /** 0 - 1 - 2 - ... with canals of one length, each numbered as its upper basin. */
    private static LockgateRouter chain(int canals, int length) {
        LockgateRouter net = new LockgateRouter();
        for (int i = 0; i < canals; i++) {
            net.dig(i, i + 1, length, 0);
        }
        return net;
    }

    private static LockgateRouter settledChain() {
        LockgateRouter net = chain(4, 2);
        net.settle(10);
        return net;
    }

    private static int[] distances(LockgateRouter net, int basin) {
        int[] all = new int[8];
        for (int other = 0; other < 8; other++) {
            all[other] = net.distance(basin, other);
        }
        return all;
    }

    private static int[] canalsTo(LockgateRouter net, int basin) {
        int[] all = new int[8];
        for (int other = 0; other < 8; other++) {
            all[other] = net.canalTo(basin, other);
        }
        return all;
    }

    private static void promise7AllAtOnce() {
        LockgateRouter net = chain(3, 2);
        net.settle(1);
        CHECKS.row("7: one tick hears neighbours only", "0 2 -1 -1 -1 -1 -1 -1", distances(net, 0));
        CHECKS.row("7: backward too", "-1 -1 2 0 -1 -1 -1 -1", distances(net, 3));
        net.settle(1);
        CHECKS.row("7: two ticks", "0 2 4 -1 -1 -1 -1 -1", distances(net, 0));
        CHECKS.row("7: two ticks, backward", "-1 4 2 0 -1 -1 -1 -1", distances(net, 3));
        net.settle(1);
        CHECKS.row("7: three ticks", "0 2 4 6 -1 -1 -1 -1", distances(net, 0));
        CHECKS.row("7: canals", "-1 0 0 0 -1 -1 -1 -1", canalsTo(net, 0));
        CHECKS.row("7: canals in the middle", "0 -1 1 1 -1 -1 -1 -1", canalsTo(net, 1));
    }

    private static void promise7CountsOfChanges() {
        LockgateRouter net = chain(3, 2);
        CHECKS.row("7: changes of each tick", "6 4 2 0", net.settle(1), net.settle(1), net.settle(1), net.settle(1));
        CHECKS.row("7: of the last tick alone", "2 0", chain(3, 2).settle(3), chain(3, 2).settle(50));
        LockgateRouter other = new LockgateRouter();
        other.dig(0, 1, 3, 0);
        other.dig(0, 1, 3, 0);
        other.settle(5);
        other.setGate(0, false);
        CHECKS.row("7: a canal that changes alone counts", "2 3 1", other.settle(1), other.distance(0, 1), other.canalTo(0, 1));
        other.dry(11);
        CHECKS.row("7: a distance that changes alone counts", "2 13 1", other.settle(1), other.distance(0, 1), other.canalTo(0, 1));
        other.setGate(1, false);
        CHECKS.row("7: an entry that goes counts once", "2 -1 -1", other.settle(1), other.distance(0, 1), other.canalTo(0, 1));
    }

    private static void promise7LowestCanal() {
        LockgateRouter net = new LockgateRouter();
        net.dig(1, 3, 4, 0);
        net.dig(0, 2, 3, 0);
        net.dig(2, 3, 3, 0);
        net.dig(0, 1, 2, 0);
        net.dig(0, 1, 2, 0);
        net.settle(5);
        CHECKS.row("7: of two ways of 6 the lower canal", "6 1", net.distance(0, 3), net.canalTo(0, 3));
        CHECKS.row("7: of two canals of 2 the lower one", "2 3", net.distance(0, 1), net.canalTo(0, 1));
        CHECKS.row("7: and back", "6 0 2 3", net.distance(3, 0), net.canalTo(3, 0), net.distance(1, 0), net.canalTo(1, 0));
        net.dig(0, 3, 5, 0);
        net.settle(5);
        CHECKS.row("7: a shorter one with a higher number", "5 5", net.distance(0, 3), net.canalTo(0, 3));
    }

    private static void promise7NoFurtherThan40() {
        LockgateRouter net = chain(6, 8);
        net.settle(10);
        CHECKS.row("7: 40 is told, 48 is not", "0 8 16 24 32 40 -1 -1", distances(net, 0));
        CHECKS.row("7: no canal without a distance", "-1 0 0 0 0 0 -1 -1", canalsTo(net, 0));
        LockgateRouter above = chain(4, 8);
        above.dig(4, 5, 9, 0);
        above.settle(10);
        CHECKS.row("7: 41 is not", "0 8 16 24 32 -1 -1 -1", distances(above, 0));
    }

    private static void promise7ForgetsAndDearer() {
        LockgateRouter net = settledChain();
        CHECKS.row("7: settled", "0 2 4 6 8 -1 -1 -1", distances(net, 0));
        net.setGate(0, false);
        net.settle(1);
        CHECKS.row("7: a shut gate tells nothing", "0 -1 -1 -1 -1 -1 -1 -1", distances(net, 0));
        net.setGate(0, true);
        net.dry(11);
        net.settle(1);
        CHECKS.row("7: costs as they are now", "0 12 14 16 18 -1 -1 -1", distances(net, 0));
        net.settle(9);
        CHECKS.row("7: dear ways", "0 12 24 36 -1 -1 -1 -1", distances(net, 0));
        LockgateRouter dry = chain(1, 1);
        dry.dry(50);
        dry.dig(6, 7, 9, 9);
        dry.settle(1);
        CHECKS.row("7: too little water shuts no table", "21 29 29", dry.distance(0, 1), dry.distance(6, 7), dry.distance(7, 6));
    }

    private static void promise7Refuses() {
        for (int ticks : new int[] {0, 51, -1, Integer.MIN_VALUE, Integer.MAX_VALUE}) {
            CHECKS.noArgument("7: settle " + ticks, Nets::looping, net -> net.settle(ticks));
        }
        CHECKS.same("7: ticks of tables are no ticks of barges", 0, settledChain().ticks());
    }

    private static void promise16Distance() {
        LockgateRouter net = settledChain();
        CHECKS.row("16: distance", "8 8 0 0 -1 -1", net.distance(0, 4), net.distance(4, 0), net.distance(2, 2),
                net.distance(7, 7), net.distance(0, 7), net.distance(7, 0));
        for (int basin : NO_BASINS) {
            CHECKS.noIndex("16: basin " + basin, TablesTest::settledChain, other -> other.distance(basin, 0));
            CHECKS.noIndex("16: other " + basin, TablesTest::settledChain, other -> other.distance(0, basin));
        }
    }

    private static void promise17CanalTo() {
        LockgateRouter net = settledChain();
        CHECKS.row("17: canalTo", "0 3 1 2 -1 -1 -1 -1", net.canalTo(0, 4), net.canalTo(4, 0), net.canalTo(2, 0),
                net.canalTo(2, 4), net.canalTo(2, 2), net.canalTo(7, 7), net.canalTo(0, 7), net.canalTo(7, 0));
        net.setGate(0, false);
        CHECKS.same("17: tables hear of a gate in a tick only", 0, net.canalTo(0, 4));
        for (int basin : NO_BASINS) {
            CHECKS.noIndex("17: basin " + basin, TablesTest::settledChain, other -> other.canalTo(basin, 0));
            CHECKS.noIndex("17: other " + basin, TablesTest::settledChain, other -> other.canalTo(0, basin));
        }
    }

    private static void promise18AreStill() {
        LockgateRouter net = chain(2, 2);
        CHECKS.same("18: ahead of the first tick", false, net.areStill());
        net.settle(1);
        CHECKS.same("18: after one", false, net.areStill());
        CHECKS.same("18: to ask is no tick", -1, net.distance(0, 2));
        net.settle(1);
        CHECKS.same("18: after two", true, net.areStill());
        net.setGate(1, false);
        CHECKS.same("18: a gate was shut", false, net.areStill());
        net.setGate(1, true);
        CHECKS.same("18: and opened", true, net.areStill());
        net.dry(10);
        CHECKS.same("18: 30 is as dear as 60", true, net.areStill());
        net.dry(1);
        CHECKS.same("18: low water", false, net.areStill());
        net.settle(5);
        CHECKS.same("18: low water, settled", true, net.areStill());
        LockgateRouter twice = new LockgateRouter();
        twice.dig(0, 1, 1, 0);
        twice.dig(0, 1, 1, 0);
        twice.settle(1);
        twice.setGate(0, false);
        CHECKS.same("18: a canal would change alone", false, twice.areStill());
    }

    private static void promise19Cheapest() {
        LockgateRouter net = new LockgateRouter();
        net.dig(6, 7, 1, 0);
        net.dig(5, 6, 1, 0);
        net.dig(4, 5, 1, 0);
        net.dig(3, 4, 1, 0);
        net.dig(2, 3, 1, 0);
        net.dig(1, 2, 1, 0);
        net.dig(0, 1, 1, 0);
        net.dig(0, 7, 9, 0);
        CHECKS.row("19: whatever tables tell", "7 7 0 0 1 -1", net.cheapest(0, 7), net.cheapest(7, 0), net.cheapest(0, 0),
                net.cheapest(7, 7), net.cheapest(3, 4), net.distance(0, 7));
        net.setGate(3, false);
        CHECKS.row("19: another way", "9 12 12", net.cheapest(0, 7), net.cheapest(0, 4), net.cheapest(4, 0));
        net.setGate(7, false);
        CHECKS.row("19: no way", "-1 3 -1", net.cheapest(0, 7), net.cheapest(0, 3), net.cheapest(4, 3));
        net.dry(11);
        CHECKS.row("19: low water", "11 22 33", net.cheapest(0, 1), net.cheapest(0, 2), net.cheapest(3, 0));
        CHECKS.same("19: tables stay", -1, net.distance(0, 1));
        LockgateRouter dry = chain(1, 4);
        dry.dry(50);
        CHECKS.row("19: very low water", "24 24", dry.cheapest(0, 1), dry.cheapest(1, 0));
        for (int basin : NO_BASINS) {
            CHECKS.noIndex("19: basin " + basin, TablesTest::settledChain, other -> other.cheapest(basin, 0));
            CHECKS.noIndex("19: other " + basin, TablesTest::settledChain, other -> other.cheapest(0, basin));
        }
    }

    private static void promise19CheapestNoFurtherThan40() {
        LockgateRouter net = chain(5, 8);
        net.dig(5, 6, 1, 0);
        CHECKS.row("19: 40 and 41", "40 -1 -1 33", net.cheapest(0, 5), net.cheapest(0, 6), net.cheapest(6, 0), net.cheapest(1, 6));
    }

    private static void promise20IsLoop() {
        LockgateRouter net = Nets.looping();
        CHECKS.row("20: canals", "0 0", net.canalTo(0, 3), net.canalTo(1, 3));
        CHECKS.same("20: 0 to 3 by 1 and 0", true, net.isLoop(0, 3));
        CHECKS.same("20: 1 to 3 by 0 and 1", true, net.isLoop(1, 3));
        CHECKS.same("20: 0 to 1 comes there", false, net.isLoop(0, 1));
        CHECKS.same("20: 3 to 0 ends", false, net.isLoop(3, 0));
        CHECKS.same("20: 3 to 3", false, net.isLoop(3, 3));
        LockgateRouter chain = chain(7, 1);
        chain.settle(10);
        CHECKS.same("20: the longest way comes there", false, chain.isLoop(0, 7));
        CHECKS.same("20: and back", false, chain.isLoop(7, 0));
        chain.setGate(6, false);
        CHECKS.same("20: gates do not matter", false, chain.isLoop(0, 7));
        chain.settle(1);
        CHECKS.row("20: 6 goes back to 5", "5 5", chain.canalTo(6, 7), chain.canalTo(5, 7));
        chain.settle(1);
        CHECKS.same("20: a long way into a loop", true, chain.isLoop(0, 7));
        chain.settle(50);
        CHECKS.same("20: gone", false, chain.isLoop(0, 7));
        for (int basin : NO_BASINS) {
            CHECKS.noIndex("20: basin " + basin, Nets::looping, other -> other.isLoop(basin, 0));
            CHECKS.noIndex("20: other " + basin, Nets::looping, other -> other.isLoop(0, basin));
        }
    }

    private static void promise21Loops() {
        CHECKS.same("21: settled", 0, settledChain().loops());
        CHECKS.same("21: 0 and 1 to 3", 2, Nets.looping().loops());
        LockgateRouter net = settledChain();
        net.setGate(3, false);
        CHECKS.same("21: ahead of a tick", 0, net.loops());
        net.settle(1);
        CHECKS.same("21: 0 to 3 to 4", 4, net.loops());
        net.setGate(0, false);
        net.settle(1);
        CHECKS.same("21: 1 to 3 to 4, and 1 to 3 to 0", 6, net.loops());
        net.settle(50);
        CHECKS.same("21: still", 0, net.loops());
    }
}
