/**
 * The boundaries that "Terms" name for basins, their water and canals, sentence by sentence: just inside and just
 * outside. What is refused has its tests in RefusalsTest.
 */
public final class TermsOfWaterTest {
    private static final Checks CHECKS = new Checks();

    public static void main(String[] args) {
        basinsAre0To7();
        aBasinHasWater60AtFirst();
        aMarkFrom1To6And4AtFirst();
        lowWithLessThan30();
        veryLowWithLessThan15();
        canalsAreNumberedFrom0();
        atMost14Canals();
        lengthFrom1To9();
        liftFrom0To9();
        aGateIsOpenAsAtFirstOrShut();
        bargesGoBothWays();
        costOfEachOfTwoBasins();
        passedIfItsGateIsOpen();
        passedWithAtLeastItsLiftAnd5();
        takesAsMuchWaterAsTheLift();
        aboveTwoHundredIsLostByLocks();
        rainAddsWaterUpTo200();
        aDryDayTakes3();
        aDryDayTakesNotBelow5();
        dryDaysFrom1To50();
        waterIsNeverBelow5NorAbove200();
        waterOfAllBasins();
        lostAbove200ByLocksAndRain();
        atMost512Calls();
        CHECKS.end("TermsOfWaterTest");
    }

    /** Basins 0 and 1 have the water that is asked for, from 5 to 200; the others have 5. */
    private static LockgateRouter withWater(int first, int second) {
        LockgateRouter net = new LockgateRouter();
        net.dry(19);
        addRain(net, 0, first - 5);
        addRain(net, 1, second - 5);
        CHECKS.row("the water that is asked for", first + " " + second, net.water(0), net.water(1));
        return net;
    }

    private static void addRain(LockgateRouter net, int basin, int water) {
        if (water > 0) {
            net.rain(basin, water);
        }
    }

    /** Canal 0 goes from 0 down to 1, and a barge waits in the one to go to the other one. */
    private static LockgateRouter lock(int upperWater, int lowerWater, int lift, boolean downward) {
        LockgateRouter net = withWater(upperWater, lowerWater);
        net.dig(0, 1, 1, lift);
        net.settle(1);
        net.setOut(downward ? 0 : 1, downward ? 1 : 0, 1);
        return net;
    }

    private static void basinsAre0To7() {
        LockgateRouter net = new LockgateRouter();
        net.dig(0, 7, 4, 3);
        net.dig(7, 0, 5, 2);
        net.settle(1);
        CHECKS.row("basins 0 and 7: distances", "4 4 0 0", net.distance(0, 7), net.distance(7, 0), net.distance(0, 0), net.distance(7, 7));
        CHECKS.row("basins 0 and 7: canals", "0 0", net.canalTo(0, 7), net.canalTo(7, 0));
        CHECKS.row("basins 0 and 7: cheapest", "4 4", net.cheapest(0, 7), net.cheapest(7, 0));
        CHECKS.row("basins 0 and 7: marks", "4 4", net.setMark(0, 1), net.setMark(7, 1));
        CHECKS.row("basins 0 and 7: rain", "61 62", net.rain(0, 1), net.rain(7, 2));
        CHECKS.row("basins 0 and 7: barges", "0 1", net.setOut(0, 7, 1), net.setOut(7, 0, 1));
        CHECKS.row("basins 0 and 7: queues", "1 1 0 1", net.queue(0), net.queue(7), net.queued(0, 0), net.queued(7, 0));
        CHECKS.row("basins 0 and 7: moved", "2 7 0 55 68", net.move(1), net.basinOf(0), net.basinOf(1), net.water(0), net.water(7));
    }

    private static void aBasinHasWater60AtFirst() {
        LockgateRouter net = new LockgateRouter();
        for (int basin = 0; basin < 8; basin++) {
            CHECKS.same("60 at first: " + basin, 60, net.water(basin));
        }
        CHECKS.row("60 at first: all, none spilt", "480 0", net.allWater(), net.spilt());
    }

    private static void aMarkFrom1To6And4AtFirst() {
        for (int basin = 0; basin < 8; basin++) {
            LockgateRouter net = new LockgateRouter();
            CHECKS.row("a mark: " + basin, "4 1 6 6", net.setMark(basin, 1), net.setMark(basin, 6), net.setMark(basin, 6), net.setMark(basin, 1));
        }
    }

    private static void lowWithLessThan30() {
        LockgateRouter net = withWater(33, 32);
        for (int basin = 2; basin < 8; basin++) {
            net.rain(basin, 195);
        }
        CHECKS.row("low: 30 is not, 29 is", "1 30 29", net.dry(1), net.water(0), net.water(1));
        net.rain(1, 4);
        CHECKS.row("low: 27 is, 30 is not", "1 27 30", net.dry(1), net.water(0), net.water(1));
        LockgateRouter all = new LockgateRouter();
        CHECKS.row("low: none of 30", "0 30", all.dry(10), all.water(7));
        all.rain(7, 2);
        CHECKS.row("low: all, of 27 and 29", "8 27 29", all.dry(1), all.water(0), all.water(7));
        LockgateRouter costs = withWater(30, 29);
        costs.dig(0, 1, 1, 0);
        CHECKS.same("low: 29 costs 5, 30 nothing", 6, costs.cost(0));
        costs.rain(1, 1);
        CHECKS.same("low: 30 and 30 cost nothing", 1, costs.cost(0));
    }

    private static void veryLowWithLessThan15() {
        LockgateRouter net = withWater(15, 14);
        net.rain(2, 195);
        net.dig(0, 2, 1, 0);
        net.dig(1, 2, 1, 0);
        net.dig(2, 0, 1, 0);
        net.dig(2, 1, 1, 0);
        CHECKS.row("very low: 15 is not, 14 is, above", "6 11", net.cost(0), net.cost(1));
        CHECKS.row("very low: 15 is not, 14 is, below", "6 11", net.cost(2), net.cost(3));
        net.rain(1, 1);
        CHECKS.row("very low: 15 is not", "6 6", net.cost(1), net.cost(3));
    }

    private static void canalsAreNumberedFrom0() {
        LockgateRouter net = new LockgateRouter();
        for (int canal = 0; canal < 14; canal++) {
            CHECKS.same("canals ahead of " + canal, canal, net.canals());
            int number = canal;
            CHECKS.noIndex("cost ahead of canal " + canal, () -> withCanals(number), other -> other.cost(number));
            CHECKS.noIndex("canPass ahead of canal " + canal, () -> withCanals(number), other -> other.canPass(number));
            CHECKS.noIndex("setGate ahead of canal " + canal, () -> withCanals(number), other -> other.setGate(number, false));
            CHECKS.same("number of canal " + canal, canal, net.dig(0, 1, 1 + canal % 9, 0));
            CHECKS.same("cost of canal " + canal, 1 + canal % 9, net.cost(canal));
        }
    }

    private static LockgateRouter withCanals(int canals) {
        LockgateRouter net = new LockgateRouter();
        for (int canal = 0; canal < canals; canal++) {
            net.dig(0, 1, 1 + canal % 9, 0);
        }
        return net;
    }

    private static void atMost14Canals() {
        LockgateRouter net = withCanals(13);
        CHECKS.row("at most 14: the 14th", "13 14", net.dig(6, 7, 9, 9), net.canals());
        CHECKS.row("at most 14: the 14th goes", "9 1", net.cost(13), net.canPass(13) ? 1 : 0);
        CHECKS.noState("at most 14: the 15th", () -> withCanals(14), other -> other.dig(6, 7, 9, 9));
        CHECKS.noState("at most 14: the 15th, all shut", TermsOfWaterTest::with14ShutCanals, other -> other.dig(6, 7, 9, 9));
    }

    private static LockgateRouter with14ShutCanals() {
        LockgateRouter net = withCanals(14);
        for (int canal = 0; canal < 14; canal++) {
            net.setGate(canal, false);
        }
        return net;
    }

    private static void lengthFrom1To9() {
        LockgateRouter net = new LockgateRouter();
        for (int length = 1; length <= 9; length++) {
            int canal = net.dig(0, 1, length, 0);
            CHECKS.row("length " + length, (length - 1) + " " + length, canal, net.cost(canal));
        }
        for (int length : new int[] {0, 10}) {
            CHECKS.noArgument("length " + length, LockgateRouter::new, other -> other.dig(0, 1, length, 0));
        }
    }

    private static void liftFrom0To9() {
        for (int lift = 0; lift <= 9; lift++) {
            LockgateRouter net = new LockgateRouter();
            CHECKS.same("lift " + lift, 0, net.dig(0, 1, 1, lift));
            net.settle(1);
            net.setOut(0, 1, 1);
            net.move(1);
            CHECKS.row("lift " + lift + ": water", (60 - lift) + " " + (60 + lift), net.water(0), net.water(1));
        }
        for (int lift : new int[] {-1, 10}) {
            CHECKS.noArgument("lift " + lift, LockgateRouter::new, other -> other.dig(0, 1, 1, lift));
        }
    }

    private static void aGateIsOpenAsAtFirstOrShut() {
        LockgateRouter net = withCanals(14);
        for (int canal = 0; canal < 14; canal++) {
            CHECKS.same("open at first: " + canal, true, net.canPass(canal));
            CHECKS.same("was open: " + canal, true, net.setGate(canal, false));
            CHECKS.same("shut: " + canal, false, net.canPass(canal));
            CHECKS.same("was shut: " + canal, false, net.setGate(canal, true));
        }
    }

    private static void bargesGoBothWays() {
        LockgateRouter down = lock(60, 60, 9, true);
        CHECKS.row("down: water goes down", "1 1 51 69", down.move(1), down.state(0), down.water(0), down.water(1));
        LockgateRouter up = lock(60, 60, 9, false);
        CHECKS.row("up: water goes down", "1 1 51 69", up.move(1), up.state(0), up.water(0), up.water(1));
    }

    private static void costOfEachOfTwoBasins() {
        int[] waters = {5, 14, 15, 29, 30, 200};
        int[] more = {10, 10, 5, 5, 0, 0};
        for (int upper = 0; upper < waters.length; upper++) {
            for (int lower = 0; lower < waters.length; lower++) {
                LockgateRouter net = withWater(waters[upper], waters[lower]);
                net.dig(0, 1, 1, 9);
                net.dig(1, 0, 9, 0);
                net.setGate(1, false);
                int both = more[upper] + more[lower];
                String what = "cost with " + waters[upper] + " and " + waters[lower];
                CHECKS.row(what, (1 + both) + " " + (9 + both), net.cost(0), net.cost(1));
            }
        }
    }

    private static void passedIfItsGateIsOpen() {
        for (boolean downward : new boolean[] {true, false}) {
            LockgateRouter net = lock(200, 5, 0, downward);
            net.setGate(0, false);
            CHECKS.same("shut, with 200", false, net.canPass(0));
            CHECKS.row("shut: none is sent", "0 0 1 0", net.move(2), net.hops(0), net.life(0), net.state(0));
            net.setGate(0, true);
            CHECKS.same("open", true, net.canPass(0));
            CHECKS.row("open: it is sent", "1 1 0 1", net.move(1), net.hops(0), net.life(0), net.state(0));
        }
    }

    private static void passedWithAtLeastItsLiftAnd5() {
        for (int lift = 0; lift <= 9; lift++) {
            for (boolean downward : new boolean[] {true, false}) {
                LockgateRouter enough = lock(lift + 5, 60, lift, downward);
                CHECKS.same("just enough for " + lift, true, enough.canPass(0));
                CHECKS.row("just enough for " + lift + ": moved", "1 1 5 " + (60 + lift),
                        enough.move(1), enough.state(0), enough.water(0), enough.water(1));
                if (lift > 0) {
                    tooLittleFor(lift, downward);
                }
            }
        }
        LockgateRouter below = lock(200, 5, 9, false);
        CHECKS.row("the lower basin's water is no matter", "1 1 14", below.canPass(0) ? 1 : 0, below.move(1), below.water(1));
    }

    private static void tooLittleFor(int lift, boolean downward) {
        LockgateRouter net = lock(lift + 4, 60, lift, downward);
        CHECKS.same("1 too little for " + lift, false, net.canPass(0));
        CHECKS.row("1 too little for " + lift + ": it waits", "0 0 0 1", net.move(2), net.state(0), net.hops(0), net.life(0));
        CHECKS.row("1 too little for " + lift + ": no water goes", (lift + 4) + " 60 0", net.water(0), net.water(1), net.spilt());
        net.rain(0, 1);
        CHECKS.same("1 more for " + lift, true, net.canPass(0));
    }

    private static void takesAsMuchWaterAsTheLift() {
        LockgateRouter none = lock(5, 5, 0, true);
        CHECKS.row("a lift of 0 takes none", "1 5 5 0", none.move(1), none.water(0), none.water(1), none.spilt());
        LockgateRouter one = lock(6, 5, 1, true);
        CHECKS.row("a lift of 1", "1 5 6 0", one.move(1), one.water(0), one.water(1), one.spilt());
        LockgateRouter nine = lock(200, 5, 9, true);
        CHECKS.row("a lift of 9", "1 191 14 0", nine.move(1), nine.water(0), nine.water(1), nine.spilt());
    }

    private static void aboveTwoHundredIsLostByLocks() {
        // Water of the lower basin ahead, behind, and what is lost, by a lift of 9.
        int[][] rows = {{190, 199, 0}, {191, 200, 0}, {192, 200, 1}, {199, 200, 8}, {200, 200, 9}};
        for (int[] row : rows) {
            for (boolean downward : new boolean[] {true, false}) {
                LockgateRouter net = lock(200, row[0], 9, downward);
                int all = net.allWater();
                CHECKS.row("a lock into " + row[0], "1 191 " + row[1] + " " + row[2],
                        net.move(1), net.water(0), net.water(1), net.spilt());
                CHECKS.same("a lock into " + row[0] + ": all", all - row[2], net.allWater());
            }
        }
        LockgateRouter full = lock(200, 200, 0, true);
        CHECKS.row("a lift of 0 into 200", "1 200 200 0", full.move(1), full.water(0), full.water(1), full.spilt());
    }

    private static void rainAddsWaterUpTo200() {
        // Water ahead, rain, water behind, and what is lost.
        int[][] rows = {
            {5, 1, 6, 0}, {5, 195, 200, 0}, {5, 196, 200, 1}, {5, 200, 200, 5}, {198, 1, 199, 0}, {199, 1, 200, 0},
            {199, 2, 200, 1}, {200, 1, 200, 1}, {200, 200, 200, 200},
        };
        for (int[] row : rows) {
            LockgateRouter net = withWater(row[0], 60);
            String what = "rain of " + row[1] + " on " + row[0];
            CHECKS.row(what, row[2] + " " + row[2] + " " + row[3], net.rain(0, row[1]), net.water(0), net.spilt());
            CHECKS.row(what + ": nowhere else", "60 5", net.water(1), net.water(2));
        }
        for (int water : new int[] {0, 201}) {
            CHECKS.noArgument("rain of " + water, LockgateRouter::new, net -> net.rain(0, water));
        }
    }

    private static void aDryDayTakes3() {
        LockgateRouter net = withWater(200, 199);
        CHECKS.row("a dry day", "6 197 196", net.dry(1), net.water(0), net.water(1));
        CHECKS.row("another one", "6 194 193", net.dry(1), net.water(0), net.water(1));
        LockgateRouter all = new LockgateRouter();
        all.dry(1);
        for (int basin = 0; basin < 8; basin++) {
            CHECKS.same("a dry day takes 3 from " + basin, 57, all.water(basin));
        }
        CHECKS.row("a dry day spills nothing", "456 0", all.allWater(), all.spilt());
    }

    private static void aDryDayTakesNotBelow5() {
        int[] ahead = {5, 6, 7, 8, 9, 10, 11};
        int[] behind = {5, 5, 5, 5, 6, 7, 8};
        int[] twoDays = {5, 5, 5, 5, 5, 5, 5};
        for (int i = 0; i < ahead.length; i++) {
            LockgateRouter net = withWater(ahead[i], 12);
            net.dry(1);
            CHECKS.row("a dry day on " + ahead[i], behind[i] + " 9", net.water(0), net.water(1));
            LockgateRouter two = withWater(ahead[i], 12);
            two.dry(2);
            CHECKS.row("two dry days on " + ahead[i], twoDays[i] + " 6", two.water(0), two.water(1));
        }
    }

    private static void dryDaysFrom1To50() {
        LockgateRouter net = withWater(200, 155);
        CHECKS.row("50 dry days", "7 50 5", net.dry(50), net.water(0), net.water(1));
        LockgateRouter less = withWater(200, 155);
        CHECKS.row("49 dry days", "7 53 8", less.dry(49), less.water(0), less.water(1));
        LockgateRouter edge = withWater(156, 180);
        CHECKS.row("50 dry days: 6 and 30", "7 6 30", edge.dry(50), edge.water(0), edge.water(1));
        for (int days : new int[] {0, 51}) {
            CHECKS.noArgument("dry days " + days, LockgateRouter::new, other -> other.dry(days));
        }
    }

    private static void waterIsNeverBelow5NorAbove200() {
        LockgateRouter net = withWater(23, 200);
        net.dig(0, 1, 1, 9);
        net.settle(1);
        for (int i = 0; i < 4; i++) {
            net.setOut(0, 1, 1);
        }
        CHECKS.row("three locks of 9 ask for 27", "2 5 200 18 2", net.move(10), net.water(0), net.water(1), net.spilt(), net.queue(0));
        net.dry(50);
        CHECKS.row("dry days behind locks", "5 50", net.water(0), net.water(1));
    }

    private static void waterOfAllBasins() {
        LockgateRouter net = new LockgateRouter();
        for (int basin = 0; basin < 8; basin++) {
            net.rain(basin, 139);
        }
        CHECKS.row("one less than full each", "1592 0", net.allWater(), net.spilt());
        for (int basin = 0; basin < 8; basin++) {
            net.rain(basin, 2);
            CHECKS.row("full up to " + basin, (1593 + basin) + " " + (1 + basin), net.allWater(), net.spilt());
        }
        CHECKS.same("49 dry days", 8 * 53, net.dry(49) == 0 ? net.allWater() : -1);
        net.dry(15);
        CHECKS.same("8 each", 64, net.allWater());
        CHECKS.row("5 each", "8 40", net.dry(1), net.allWater());
        CHECKS.row("and no less", "8 40 8", net.dry(50), net.allWater(), net.spilt());
    }

    private static void lostAbove200ByLocksAndRain() {
        LockgateRouter net = lock(200, 190, 9, true);
        net.setOut(1, 0, 1);
        net.setOut(0, 1, 1);
        CHECKS.row("none by the first, 8 by the second", "2 8", net.move(1), net.spilt());
        CHECKS.row("9 by the third", "1 17", net.move(1), net.spilt());
        CHECKS.row("and 3 by rain", "200 20", net.rain(1, 3), net.spilt());
        CHECKS.row("and 1 by rain elsewhere", "200 21", net.rain(0, 28), net.spilt());
        CHECKS.row("a dry day loses none that way", "6 21", net.dry(1), net.spilt());
        CHECKS.row("nor does rain that has a place", "200 21", net.rain(0, 3), net.spilt());
    }

    private static void atMost512Calls() {
        LockgateRouter net = new LockgateRouter();
        for (int call = 1; call < 512; call++) {
            net.rain(0, 200);
        }
        CHECKS.same("the 512th call", 511 * 200 - 140, net.spilt());
    }
}
