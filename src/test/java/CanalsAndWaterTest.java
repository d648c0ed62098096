/** Promises 1 to 6 and 10 to 15: a new object, canals and water. */
public final class CanalsAndWaterTest {
    private static final Checks CHECKS = new Checks();
    private static final int[] NO_BASINS = {-1, 8, Integer.MIN_VALUE, Integer.MAX_VALUE};

    public static void main(String[] args) {
        promise1NewObject();
        promise2Dig();
        promise2DigRefuses();
        promise2DigNoMoreThan14();
        promise3SetGate();
        promise4SetMark();
        promise5Rain();
        promise6Dry();
        promise10Canals();
        promise11Water();
        promise12AllWater();
        promise13SpiltByRain();
        promise13SpiltByLocks();
        promise14Cost();
        promise14CostOfBothBasins();
        promise15CanPass();
        promise15WaterOfLocks();
        CHECKS.end("CanalsAndWaterTest");
    }

    /** Two canals; the first one's gate is shut, and basin 2 has a barge that waits. */
    private static LockgateRouter small() {
        LockgateRouter net = new LockgateRouter();
        net.dig(0, 1, 3, 2);
        net.dig(2, 1, 4, 9);
        net.settle(2);
        net.setGate(0, false);
        net.setOut(2, 1, 5);
        net.rain(4, 150);
        return net;
    }

    private static LockgateRouter with14Canals() {
        LockgateRouter net = new LockgateRouter();
        for (int i = 0; i < 14; i++) {
            net.dig(i % 8, (i + 1) % 8, 1, 0);
        }
        return net;
    }

    /** Basin 0 has the water that is asked for. */
    private static LockgateRouter withWater(int water) {
        LockgateRouter net = new LockgateRouter();
        if (water < 60) {
            net.dry(19);
        }
        int more = water - net.water(0);
        if (more > 0) {
            net.rain(0, more);
        }
        CHECKS.same("water made " + water, water, net.water(0));
        return net;
    }

    private static void promise1NewObject() {
        LockgateRouter net = new LockgateRouter();
        CHECKS.row("1: counts", "0 0 0 0 0 0", net.canals(), net.barges(), net.ticks(), net.laidBy(), net.spilt(), net.loops());
        CHECKS.same("1: allWater", 480, net.allWater());
        CHECKS.same("1: areStill", true, net.areStill());
        for (int basin = 0; basin < 8; basin++) {
            CHECKS.row("1: basin " + basin, "60 0 -1", net.water(basin), net.queue(basin), net.queued(basin, 0));
            for (int other = 0; other < 8; other++) {
                int due = basin == other ? 0 : -1;
                CHECKS.same("1: distance " + basin + " " + other, due, net.distance(basin, other));
                CHECKS.same("1: canalTo " + basin + " " + other, -1, net.canalTo(basin, other));
                CHECKS.same("1: cheapest " + basin + " " + other, due, net.cheapest(basin, other));
                CHECKS.same("1: isLoop " + basin + " " + other, false, net.isLoop(basin, other));
            }
        }
        LockgateRouter marks = new LockgateRouter();
        for (int basin = 0; basin < 8; basin++) {
            CHECKS.same("1: mark " + basin, 4, marks.setMark(basin, 1));
        }
    }

    private static void promise2Dig() {
        LockgateRouter net = new LockgateRouter();
        CHECKS.same("2: first canal", 0, net.dig(0, 1, 1, 0));
        CHECKS.same("2: longest and highest", 1, net.dig(7, 0, 9, 9));
        CHECKS.same("2: a second one between the same basins", 2, net.dig(0, 1, 5, 4));
        CHECKS.same("2: the other way round", 3, net.dig(1, 0, 2, 0));
        CHECKS.row("2: lengths", "1 9 5 2", net.cost(0), net.cost(1), net.cost(2), net.cost(3));
        CHECKS.same("2: gate is open at first", true, net.setGate(0, true));
        CHECKS.row("2: tables do not hear at once", "-1 -1", net.distance(0, 1), net.canalTo(0, 1));
        net.settle(1);
        CHECKS.row("2: both ways", "1 1 9 9", net.distance(0, 1), net.distance(1, 0), net.distance(7, 0), net.distance(0, 7));
        net.setOut(7, 0, 1);
        net.move(1);
        CHECKS.row("2: the upper basin gives the lift", "51 69", net.water(7), net.water(0));
    }

    private static void promise2DigRefuses() {
        for (int basin : NO_BASINS) {
            CHECKS.noIndex("2: dig upper " + basin, CanalsAndWaterTest::small, net -> net.dig(basin, 1, 1, 0));
            CHECKS.noIndex("2: dig lower " + basin, CanalsAndWaterTest::small, net -> net.dig(1, basin, 1, 0));
            CHECKS.noIndex("2: dig twice " + basin, CanalsAndWaterTest::small, net -> net.dig(basin, basin, 0, 10));
        }
        CHECKS.noArgument("2: dig same", CanalsAndWaterTest::small, net -> net.dig(3, 3, 1, 0));
        for (int length : new int[] {0, 10, -1, Integer.MIN_VALUE, Integer.MAX_VALUE}) {
            CHECKS.noArgument("2: dig length " + length, CanalsAndWaterTest::small, net -> net.dig(0, 1, length, 0));
        }
        for (int lift : new int[] {-1, 10, Integer.MIN_VALUE, Integer.MAX_VALUE}) {
            CHECKS.noArgument("2: dig lift " + lift, CanalsAndWaterTest::small, net -> net.dig(0, 1, 1, lift));
        }
    }

    private static void promise2DigNoMoreThan14() {
        CHECKS.same("2: 14 canals", 14, with14Canals().canals());
        CHECKS.noState("2: the 15th", CanalsAndWaterTest::with14Canals, net -> net.dig(0, 1, 1, 0));
        CHECKS.noIndex("2: the 15th, no basin", CanalsAndWaterTest::with14Canals, net -> net.dig(0, 8, 0, 0));
        CHECKS.noArgument("2: the 15th, same", CanalsAndWaterTest::with14Canals, net -> net.dig(1, 1, 1, 0));
        CHECKS.noArgument("2: the 15th, length", CanalsAndWaterTest::with14Canals, net -> net.dig(0, 1, 10, 0));
        CHECKS.noArgument("2: the 15th, lift", CanalsAndWaterTest::with14Canals, net -> net.dig(0, 1, 1, 10));
    }

    private static void promise3SetGate() {
        LockgateRouter net = new LockgateRouter();
        net.dig(0, 1, 1, 0);
        net.dig(1, 2, 1, 0);
        CHECKS.same("3: open, stays open", true, net.setGate(0, true));
        CHECKS.same("3: open, shut", true, net.setGate(0, false));
        CHECKS.same("3: shut, stays shut", false, net.setGate(0, false));
        CHECKS.same("3: shut cannot be passed", false, net.canPass(0));
        CHECKS.same("3: the other one can", true, net.canPass(1));
        CHECKS.same("3: shut, open", false, net.setGate(0, true));
        CHECKS.same("3: open can be passed", true, net.canPass(0));
        for (int canal : new int[] {2, -1, 14, Integer.MIN_VALUE, Integer.MAX_VALUE}) {
            CHECKS.noIndex("3: setGate " + canal, CanalsAndWaterTest::small, other -> other.setGate(canal, true));
        }
        CHECKS.noIndex("3: setGate 14 of 14", CanalsAndWaterTest::with14Canals, other -> other.setGate(14, false));
        CHECKS.same("3: setGate 13 of 14", true, with14Canals().setGate(13, false));
    }

    private static void promise4SetMark() {
        LockgateRouter net = new LockgateRouter();
        CHECKS.row("4: marks", "4 1 6 3", net.setMark(0, 1), net.setMark(0, 6), net.setMark(0, 3), net.setMark(0, 3));
        CHECKS.row("4: of each basin its own", "4 4", net.setMark(1, 2), net.setMark(7, 2));
        for (int mark : new int[] {0, 7, -1, Integer.MIN_VALUE, Integer.MAX_VALUE}) {
            CHECKS.noArgument("4: mark " + mark, CanalsAndWaterTest::small, other -> other.setMark(0, mark));
        }
        for (int basin : NO_BASINS) {
            CHECKS.noIndex("4: basin " + basin, CanalsAndWaterTest::small, other -> other.setMark(basin, 1));
            CHECKS.noIndex("4: basin and mark " + basin, CanalsAndWaterTest::small, other -> other.setMark(basin, 7));
        }
        try {
            net.setMark(0, 7);
        } catch (IllegalArgumentException due) {
            CHECKS.same("4: a refused mark changes nothing", 3, net.setMark(0, 4));
        }
    }

    private static void promise5Rain() {
        LockgateRouter net = new LockgateRouter();
        CHECKS.row("5: rain", "61 199 200 200 200", net.rain(0, 1), net.rain(0, 138), net.rain(0, 1), net.rain(0, 1), net.rain(0, 200));
        CHECKS.row("5: rain at once", "200 200", net.rain(7, 140), net.rain(6, 141));
        CHECKS.row("5: nowhere else", "200 60 60 200 200", net.water(0), net.water(1), net.water(5), net.water(6), net.water(7));
        for (int water : new int[] {0, 201, -1, Integer.MIN_VALUE, Integer.MAX_VALUE}) {
            CHECKS.noArgument("5: water " + water, CanalsAndWaterTest::small, other -> other.rain(0, water));
        }
        for (int basin : NO_BASINS) {
            CHECKS.noIndex("5: basin " + basin, CanalsAndWaterTest::small, other -> other.rain(basin, 1));
            CHECKS.noIndex("5: basin and water " + basin, CanalsAndWaterTest::small, other -> other.rain(basin, 0));
        }
    }

    private static void promise6Dry() {
        LockgateRouter net = new LockgateRouter();
        net.rain(3, 1);
        net.rain(5, 140);
        CHECKS.same("6: one day", 0, net.dry(1));
        CHECKS.row("6: 3 from each", "57 58 57 197", net.water(0), net.water(3), net.water(4), net.water(5));
        CHECKS.same("6: 30 is not low", 0, net.dry(9));
        CHECKS.row("6: 10 days", "30 31 170", net.water(0), net.water(3), net.water(5));
        CHECKS.same("6: 27 and 28 are low", 7, net.dry(1));
        CHECKS.row("6: 18 days", "7 6 7", net.dry(7), net.water(0), net.water(3));
        CHECKS.row("6: not below 5", "7 5 5", net.dry(1), net.water(0), net.water(3));
        CHECKS.row("6: 50 days", "8 5 5 5", net.dry(50), net.water(0), net.water(3), net.water(5));
        CHECKS.same("6: nothing spilt", 0, net.spilt());
        for (int days : new int[] {0, 51, -1, Integer.MIN_VALUE, Integer.MAX_VALUE}) {
            CHECKS.noArgument("6: days " + days, CanalsAndWaterTest::small, other -> other.dry(days));
        }
        LockgateRouter edge = withWater(29);
        CHECKS.row("6: 29 goes to 26", "8 26", edge.dry(1), edge.water(0));
    }

    private static void promise10Canals() {
        CHECKS.row("10: canals", "0 2 14", new LockgateRouter().canals(), small().canals(), with14Canals().canals());
    }

    private static void promise11Water() {
        LockgateRouter net = small();
        CHECKS.row("11: water", "60 60 60 200", net.water(0), net.water(1), net.water(7), net.water(4));
        for (int basin : NO_BASINS) {
            CHECKS.noIndex("11: basin " + basin, CanalsAndWaterTest::small, other -> other.water(basin));
        }
    }

    private static void promise12AllWater() {
        LockgateRouter net = small();
        CHECKS.same("12: with rain", 7 * 60 + 200, net.allWater());
        net.move(1);
        CHECKS.same("12: a lock only carries it", 7 * 60 + 200, net.allWater());
        net.dry(1);
        CHECKS.same("12: a dry day", 7 * 57 + 197, net.allWater());
        net.dry(50);
        net.dry(50);
        CHECKS.same("12: nearly dry", 40, net.allWater());
    }

    private static void promise13SpiltByRain() {
        LockgateRouter net = new LockgateRouter();
        net.rain(0, 140);
        CHECKS.same("13: 200 holds", 0, net.spilt());
        net.rain(0, 1);
        net.rain(1, 150);
        CHECKS.same("13: 1 and 10", 11, net.spilt());
        net.rain(0, 200);
        CHECKS.same("13: and 200", 211, net.spilt());
    }

    private static void promise13SpiltByLocks() {
        LockgateRouter net = new LockgateRouter();
        net.dig(0, 1, 1, 9);
        net.settle(1);
        net.rain(1, 135);
        net.setOut(0, 1, 1);
        net.setOut(1, 0, 1);
        net.move(1);
        CHECKS.row("13: up and down take water down", "42 200 13", net.water(0), net.water(1), net.spilt());
        CHECKS.same("13: what is lost is gone", 42 + 200 + 6 * 60, net.allWater());
    }

    private static void promise14Cost() {
        int[] waters = {5, 14, 15, 29, 30, 31, 60, 200};
        int[] costs = {13, 13, 8, 8, 3, 3, 3, 3};
        for (int i = 0; i < waters.length; i++) {
            LockgateRouter net = withWater(waters[i]);
            net.dig(0, 1, 3, 9);
            net.dig(1, 0, 3, 0);
            if (net.water(1) < 60) {
                net.rain(1, 55);
            }
            CHECKS.row("14: upper has " + waters[i], String.valueOf(costs[i]), net.cost(0));
            CHECKS.row("14: lower has " + waters[i], String.valueOf(costs[i]), net.cost(1));
            net.setGate(0, false);
            CHECKS.row("14: shut, upper has " + waters[i], String.valueOf(costs[i]), net.cost(0));
        }
        for (int canal : new int[] {2, -1, 14, Integer.MIN_VALUE, Integer.MAX_VALUE}) {
            CHECKS.noIndex("14: canal " + canal, CanalsAndWaterTest::small, net -> net.cost(canal));
        }
    }

    private static void promise14CostOfBothBasins() {
        LockgateRouter net = new LockgateRouter();
        net.dig(2, 3, 9, 0);
        net.dry(12);
        CHECKS.same("14: both low", 19, net.cost(0));
        net.dry(4);
        CHECKS.same("14: both very low", 29, net.cost(0));
        net.rain(2, 10);
        CHECKS.same("14: low and very low", 24, net.cost(0));
        net.rain(2, 100);
        CHECKS.same("14: one very low", 19, net.cost(0));
        net.rain(3, 5);
        CHECKS.same("14: one low", 14, net.cost(0));
    }

    private static void promise15CanPass() {
        LockgateRouter net = new LockgateRouter();
        net.dig(0, 1, 1, 9);
        net.dig(1, 0, 1, 0);
        net.dig(2, 0, 1, 9);
        net.dry(50);
        net.rain(0, 8);
        CHECKS.same("15: 13 for a lift of 9", false, net.canPass(0));
        CHECKS.same("15: 5 for a lift of 0", true, net.canPass(1));
        CHECKS.same("15: only the upper one's water counts", false, net.canPass(2));
        net.rain(0, 1);
        CHECKS.same("15: 14 for a lift of 9", true, net.canPass(0));
        net.setGate(0, false);
        net.setGate(1, false);
        CHECKS.row("15: shut", "0 0", net.canPass(0) ? 1 : 0, net.canPass(1) ? 1 : 0);
        for (int canal : new int[] {2, -1, 14, Integer.MIN_VALUE, Integer.MAX_VALUE}) {
            CHECKS.noIndex("15: canal " + canal, CanalsAndWaterTest::small, other -> other.canPass(canal));
        }
    }

    private static void promise15WaterOfLocks() {
        LockgateRouter net = new LockgateRouter();
        net.dig(0, 1, 1, 9);
        net.dig(2, 3, 1, 0);
        net.settle(1);
        net.setOut(1, 0, 1);
        net.setOut(2, 3, 1);
        net.move(1);
        CHECKS.row("15: up takes water down; no lift takes none", "51 69 60 60", net.water(0), net.water(1), net.water(2), net.water(3));
    }
}
