/**
 * The boundaries that the document names for tables, sentence by sentence: just inside and just outside. What is
 * refused has its tests in RefusalsTest.
 */
public final class TermsOfTablesTest {
    private static final Checks CHECKS = new Checks();

    public static void main(String[] args) {
        atFirst0ForItselfAndNoneForOthers();
        allBasinsAtOnce();
        forItselfABasinKeeps0();
        allOfItsCanalsWhoseGateIsOpen();
        costAndDistanceOfTheNeighbourTogether();
        ofSeveralTheCanalWithTheLowestNumber();
        theLeastGoesAheadOfTheLowestNumber();
        above40ItHasNone();
        above40OfSeveralCanals();
        above40WithinOneTick();
        fromHaving40ToNone();
        countsUpTo40();
        costsAsTheyAreInTheTick();
        stillIfATickWouldChangeNothing();
        entriesThatChangedInTheLastTick();
        ticksFrom1To50();
        cheapestUpTo40();
        cheapestByRoundsOverAllCanals();
        cheapestByCanalsWhoseGatesAreOpen();
        loopTheFirstOneCounted();
        noLoopIfTheWayEndsOrComesThere();
        loopsOfOrderedPairs();
        CHECKS.end("TermsOfTablesTest");
    }

    /** 0 - 1 - 2 - ... with canals of these lengths, each numbered as its upper basin. */
    private static LockgateRouter chain(int... lengths) {
        LockgateRouter net = new LockgateRouter();
        for (int i = 0; i < lengths.length; i++) {
            net.dig(i, i + 1, lengths[i], 0);
        }
        return net;
    }

    private static LockgateRouter settled(int... lengths) {
        LockgateRouter net = chain(lengths);
        net.settle(50);
        return net;
    }

    private static void entry(String what, int distance, int canal, LockgateRouter net, int basin, int other) {
        CHECKS.row(what, distance + " " + canal, net.distance(basin, other), net.canalTo(basin, other));
    }

    private static void none(String what, LockgateRouter net, int basin, int other) {
        entry(what, -1, -1, net, basin, other);
    }

    private static void atFirst0ForItselfAndNoneForOthers() {
        LockgateRouter net = chain(1, 1);
        for (int basin = 0; basin < 8; basin++) {
            for (int other = 0; other < 8; other++) {
                entry("at first " + basin + " " + other, basin == other ? 0 : -1, -1, net, basin, other);
            }
        }
        LockgateRouter noCanals = new LockgateRouter();
        CHECKS.row("without canals nothing changes", "0 0 1", noCanals.settle(1), noCanals.settle(50), noCanals.areStill() ? 1 : 0);
        entry("without canals, itself", 0, -1, noCanals, 3, 3);
        none("without canals, another one", noCanals, 3, 4);
    }

    private static void allBasinsAtOnce() {
        LockgateRouter rising = chain(1, 1, 1, 1, 1, 1, 1);
        LockgateRouter falling = new LockgateRouter();
        for (int i = 7; i > 0; i--) {
            falling.dig(i, i - 1, 1, 0);
        }
        for (int tick = 1; tick <= 8; tick++) {
            rising.settle(1);
            falling.settle(1);
            for (int far = 1; far <= 7; far++) {
                int due = far <= tick ? far : -1;
                String what = "tick " + tick + ", " + far + " canals off";
                CHECKS.row(what + ", rising", due + " " + due, rising.distance(0, far), rising.distance(7, 7 - far));
                CHECKS.row(what + ", falling", due + " " + due, falling.distance(0, far), falling.distance(7, 7 - far));
            }
        }
    }

    private static void forItselfABasinKeeps0() {
        LockgateRouter net = new LockgateRouter();
        net.dig(0, 1, 1, 0);
        net.dig(1, 2, 1, 0);
        net.dig(2, 0, 1, 0);
        net.dig(1, 0, 2, 0);
        for (int tick = 0; tick < 6; tick++) {
            net.setGate(tick % 4, tick % 3 == 0);
            net.settle(1);
            for (int basin = 0; basin < 8; basin++) {
                entry("itself in tick " + tick, 0, -1, net, basin, basin);
            }
        }
    }

    private static void allOfItsCanalsWhoseGateIsOpen() {
        LockgateRouter net = new LockgateRouter();
        net.dig(0, 1, 9, 0);
        net.dig(1, 0, 3, 0);
        net.dig(0, 1, 5, 0);
        net.settle(1);
        entry("three are open", 3, 1, net, 0, 1);
        net.setGate(1, false);
        entry("shut, ahead of the tick", 3, 1, net, 0, 1);
        net.settle(1);
        entry("two are open", 5, 2, net, 0, 1);
        net.setGate(2, false);
        net.settle(1);
        entry("one is open", 9, 0, net, 1, 0);
        net.setGate(0, false);
        net.settle(1);
        none("none is open", net, 0, 1);
        none("none is open, back", net, 1, 0);
        net.setGate(1, true);
        none("opened, ahead of the tick", net, 0, 1);
        net.settle(1);
        entry("one was opened", 3, 1, net, 0, 1);
        LockgateRouter dry = chain(1);
        dry.dry(50);
        dry.dig(1, 2, 1, 9);
        dry.settle(1);
        CHECKS.same("one that is open and can't be passed", false, dry.canPass(1));
        entry("counts for tables", 21, 1, dry, 1, 2);
    }

    private static void costAndDistanceOfTheNeighbourTogether() {
        LockgateRouter net = chain(9, 1, 2);
        net.settle(2);
        entry("9 and 1", 10, 0, net, 0, 2);
        none("the neighbour has none yet", net, 0, 3);
        net.settle(1);
        entry("9 and 3", 12, 0, net, 0, 3);
        entry("2 and 10", 12, 2, net, 3, 0);
        none("the neighbour never has one", net, 0, 7);
    }

    private static void ofSeveralTheCanalWithTheLowestNumber() {
        LockgateRouter twins = new LockgateRouter();
        twins.dig(5, 4, 6, 0);
        twins.dig(4, 5, 6, 0);
        twins.settle(1);
        entry("of two alike", 6, 0, twins, 4, 5);
        entry("of two alike, back", 6, 0, twins, 5, 4);
        twins.setGate(0, false);
        twins.settle(1);
        entry("the other one", 6, 1, twins, 4, 5);
        twins.setGate(0, true);
        twins.settle(1);
        entry("the lowest again", 6, 0, twins, 4, 5);
        // From 0 to 3 by 1 (2 and 5), by 2 (4 and 3), and at once (7): the canals from 0 have numbers 4, 2 and 3.
        LockgateRouter three = new LockgateRouter();
        three.dig(1, 3, 5, 0);
        three.dig(2, 3, 3, 0);
        three.dig(2, 0, 4, 0);
        three.dig(3, 0, 7, 0);
        three.dig(0, 1, 2, 0);
        three.settle(5);
        entry("of three of 7, the one by 2", 7, 2, three, 0, 3);
        entry("of three of 7, the one by 1", 7, 0, three, 3, 0);
        three.setGate(2, false);
        three.settle(5);
        entry("of two of 7, the one at once", 7, 3, three, 0, 3);
        three.setGate(3, false);
        three.settle(5);
        entry("the last of 7", 7, 4, three, 0, 3);
    }

    private static void theLeastGoesAheadOfTheLowestNumber() {
        LockgateRouter net = new LockgateRouter();
        net.dig(0, 1, 5, 0);
        net.dig(0, 1, 4, 0);
        net.dig(0, 1, 6, 0);
        net.settle(1);
        entry("4 ahead of 5 and 6", 4, 1, net, 0, 1);
        net.dig(1, 0, 3, 0);
        net.settle(1);
        entry("3 ahead of all", 3, 3, net, 1, 0);
        LockgateRouter tooLate = new LockgateRouter();
        tooLate.dig(0, 1, 9, 0);
        tooLate.dig(0, 2, 1, 0);
        tooLate.dig(2, 1, 1, 0);
        tooLate.settle(1);
        entry("a dear one at first", 9, 0, tooLate, 0, 1);
        tooLate.settle(1);
        entry("two cheap ones then", 2, 1, tooLate, 0, 1);
    }

    private static void above40ItHasNone() {
        entry("39", 39, 0, settled(8, 8, 8, 8, 7), 0, 5);
        entry("40", 40, 0, settled(8, 8, 8, 8, 8), 0, 5);
        none("41", settled(8, 8, 8, 8, 9), 0, 5);
        entry("40, back", 40, 4, settled(8, 8, 8, 8, 8), 5, 0);
        none("41, back", settled(8, 8, 8, 8, 9), 5, 0);
        none("the neighbour has 40, and 1 more", settled(8, 8, 8, 8, 8, 1), 0, 6);
        entry("the neighbour has 39, and 1 more", 40, 0, settled(1, 8, 8, 8, 8, 7), 0, 6);
    }

    private static void above40OfSeveralCanals() {
        LockgateRouter net = settled(8, 8, 8, 8, 9);
        net.dig(4, 5, 8, 0);
        net.settle(10);
        entry("41 by a lower canal, 40 by a higher one", 40, 0, net, 0, 5);
        entry("41 by a lower canal, 40 by a higher one, back", 40, 5, net, 5, 0);
        net.setGate(5, false);
        net.settle(10);
        none("41 alone", net, 5, 0);
        net.dig(0, 5, 9, 0);
        net.settle(10);
        entry("41 by a lower canal, 9 by a higher one", 9, 6, net, 5, 0);
    }

    private static void above40WithinOneTick() {
        LockgateRouter net = chain(9, 9, 9, 9, 4, 1);
        net.settle(4);
        entry("36 after 4 ticks", 36, 0, net, 0, 4);
        none("after 4 ticks", net, 0, 5);
        net.settle(1);
        entry("40 after 5 ticks", 40, 0, net, 0, 5);
        net.settle(1);
        none("41 after 6 ticks", net, 0, 6);
        entry("32 after 6 ticks", 32, 1, net, 1, 6);
        LockgateRouter dear = new LockgateRouter();
        dear.dry(50);
        dear.dig(0, 1, 9, 0);
        dear.dig(1, 2, 1, 0);
        dear.settle(5);
        entry("the dearest canal", 29, 0, dear, 0, 1);
        none("29 and 21", dear, 0, 2);
    }

    private static void fromHaving40ToNone() {
        LockgateRouter net = chain(8, 8, 8, 8, 8);
        for (int basin = 0; basin < 5; basin++) {
            net.rain(basin, 100);
        }
        net.dry(10);
        net.settle(50);
        CHECKS.row("30 in 5", "30 8 1", net.water(5), net.cost(4), net.areStill() ? 1 : 0);
        entry("40", 40, 4, net, 5, 0);
        net.dry(1);
        CHECKS.row("27 in 5", "27 13", net.water(5), net.cost(4));
        CHECKS.same("all of 5, and 4 for 5", 6, net.settle(1));
        none("45", net, 5, 0);
        entry("37", 37, 4, net, 5, 1);
        entry("the other end has not heard of it", 40, 0, net, 0, 5);
        CHECKS.row("3, then 2, then 1 for 5", "1 1 1", net.settle(1), net.settle(1), net.settle(1));
        entry("the other end has not heard of it yet", 40, 0, net, 0, 5);
        CHECKS.row("then 0 for 5", "1 0", net.settle(1), net.settle(1));
        none("45, from the other end", net, 0, 5);
    }

    private static void countsUpTo40() {
        LockgateRouter net = settled(1, 1);
        net.setGate(1, false);
        int ticks = 0;
        int longest = 0;
        for (int tick = 0; tick < 50; tick++) {
            ticks += net.settle(1) == 0 ? 0 : 1;
            longest = Math.max(longest, Math.max(net.distance(0, 2), net.distance(1, 2)));
        }
        CHECKS.row("a basin that is cut off is told of up to 40", "40 1", longest, ticks > 30 ? 1 : 0);
        none("and then no more", net, 0, 2);
        none("by none", net, 1, 2);
        CHECKS.row("still, without loops", "1 0", net.areStill() ? 1 : 0, net.loops());
    }

    private static void costsAsTheyAreInTheTick() {
        LockgateRouter net = settled(3);
        net.dry(10);
        CHECKS.row("30: nothing changes", "1 0 3", net.areStill() ? 1 : 0, net.settle(1), net.distance(0, 1));
        net.dry(1);
        CHECKS.row("27: dearer, but not ahead of the tick", "0 3 13 2", net.areStill() ? 1 : 0, net.distance(0, 1), net.cost(0), net.settle(1));
        entry("27: dearer", 13, 0, net, 0, 1);
        net.dry(4);
        CHECKS.row("15: nothing changes", "15 0", net.water(0), net.settle(1));
        net.dry(1);
        CHECKS.row("12: dearer", "12 2", net.water(0), net.settle(1));
        entry("12: dearer", 23, 0, net, 1, 0);
    }

    private static void stillIfATickWouldChangeNothing() {
        LockgateRouter net = chain(2, 2, 2);
        int[] changed = {6, 4, 2, 0};
        for (int due : changed) {
            CHECKS.same("still ahead of a tick that changes " + due, due == 0, net.areStill());
            CHECKS.same("changes", due, net.settle(1));
        }
        CHECKS.same("still behind one that changes none", true, net.areStill());
        net.dig(0, 7, 1, 0);
        CHECKS.same("a new canal", false, net.areStill());
        net.settle(10);
        net.dig(0, 7, 1, 0);
        CHECKS.same("a new canal that is of no use", true, net.areStill());
        net.setGate(4, false);
        CHECKS.same("a gate that is of no use", true, net.areStill());
        net.setGate(4, true);
        net.setGate(3, false);
        CHECKS.same("a canal would become another one, the distance would not", false, net.areStill());
        CHECKS.same("0 for 7, and all of 7", 5, net.settle(1));
        net.setMark(0, 1);
        net.setOut(0, 3, 3);
        net.move(1);
        net.rain(0, 5);
        CHECKS.same("marks, barges and rain are no matter", true, net.areStill());
    }

    private static void entriesThatChangedInTheLastTick() {
        CHECKS.row("of two ticks the last one", "6 4 2 0 0", chain(2, 2, 2).settle(1), chain(2, 2, 2).settle(2),
                chain(2, 2, 2).settle(3), chain(2, 2, 2).settle(4), chain(2, 2, 2).settle(5));
        LockgateRouter net = settled(2);
        CHECKS.same("nothing", 0, net.settle(1));
        net.dig(0, 1, 2, 0);
        net.setGate(0, false);
        CHECKS.same("a canal alone", 2, net.settle(1));
        net.dry(11);
        CHECKS.same("a distance alone", 2, net.settle(1));
        net.setGate(0, true);
        net.setGate(1, false);
        net.rain(0, 100);
        CHECKS.same("both of an entry count once", 2, net.settle(1));
        net.setGate(0, false);
        CHECKS.row("to none", "2 0", net.settle(1), net.settle(1));
        net.setGate(0, true);
        CHECKS.row("from none", "2 0", net.settle(1), net.settle(1));
        LockgateRouter all = new LockgateRouter();
        for (int i = 1; i < 8; i++) {
            all.dig(0, i, 1, 0);
        }
        CHECKS.row("all but themselves", "14 42 0", all.settle(1), all.settle(1), all.settle(1));
    }

    private static void ticksFrom1To50() {
        LockgateRouter one = chain(1, 1);
        CHECKS.row("1 tick", "4 1 -1", one.settle(1), one.distance(0, 1), one.distance(0, 2));
        CHECKS.row("50 ticks", "0 2", one.settle(50), one.distance(0, 2));
        for (int ticks : new int[] {0, 51}) {
            CHECKS.noArgument("ticks " + ticks, () -> chain(1, 1), net -> net.settle(ticks));
        }
    }

    private static void cheapestUpTo40() {
        int[] last = {7, 8, 9};
        int[] due = {39, 40, -1};
        for (int i = 0; i < last.length; i++) {
            LockgateRouter net = chain(8, 8, 8, 8, last[i]);
            CHECKS.row("cheapest " + (32 + last[i]), due[i] + " " + due[i], net.cheapest(0, 5), net.cheapest(5, 0));
        }
        LockgateRouter net = chain(8, 8, 8, 8, 9);
        net.dig(4, 5, 8, 0);
        CHECKS.row("of 41 and 40", "40 40", net.cheapest(0, 5), net.cheapest(5, 0));
        LockgateRouter dear = chain(9, 9);
        dear.dry(50);
        CHECKS.row("29 and 58", "29 29 -1", dear.cheapest(0, 1), dear.cheapest(2, 1), dear.cheapest(0, 2));
        for (int basin = 0; basin < 8; basin++) {
            CHECKS.same("to itself " + basin, 0, dear.cheapest(basin, basin));
        }
    }

    private static void cheapestByRoundsOverAllCanals() {
        LockgateRouter rising = chain(1, 1, 1, 1, 1, 1, 1);
        LockgateRouter falling = new LockgateRouter();
        for (int i = 7; i > 0; i--) {
            falling.dig(i, i - 1, 1, 0);
        }
        for (int far = 0; far < 8; far++) {
            CHECKS.row("rising, " + far, far + " " + far, rising.cheapest(0, far), rising.cheapest(7, 7 - far));
            CHECKS.row("falling, " + far, far + " " + far, falling.cheapest(0, far), falling.cheapest(7, 7 - far));
        }
        CHECKS.row("tables tell nothing of it", "-1 -1", rising.distance(0, 1), falling.distance(7, 6));
    }

    private static void cheapestByCanalsWhoseGatesAreOpen() {
        LockgateRouter net = settled(1, 1);
        net.dig(0, 2, 3, 9);
        net.setGate(0, false);
        CHECKS.row("by the other one; tables tell the old one", "3 4 2", net.cheapest(0, 2), net.cheapest(0, 1), net.distance(0, 2));
        net.setGate(2, false);
        CHECKS.row("by none", "-1 -1 1", net.cheapest(0, 2), net.cheapest(2, 0), net.cheapest(2, 1));
        net.setGate(2, true);
        net.dry(50);
        CHECKS.row("what can't be passed is no matter", "0 23 23", net.canPass(2) ? 1 : 0, net.cheapest(0, 2), net.cheapest(2, 0));
    }

    private static void loopTheFirstOneCounted() {
        LockgateRouter net = Nets.looping();
        CHECKS.row("canals", "0 0", net.canalTo(0, 3), net.canalTo(1, 3));
        CHECKS.row("back to the first one", "1 1", net.isLoop(0, 3) ? 1 : 0, net.isLoop(1, 3) ? 1 : 0);
        LockgateRouter into = settled(1, 1, 1);
        into.setGate(2, false);
        into.settle(1);
        CHECKS.row("canals into a loop", "0 1 1", into.canalTo(0, 3), into.canalTo(1, 3), into.canalTo(2, 3));
        CHECKS.same("to a loop in which the first one is not", true, into.isLoop(0, 3));
        // From 0 the way comes to each of the seven other basins ahead of the one that it comes to twice.
        LockgateRouter far = settled(1, 1, 1, 1, 1, 1);
        far.dig(6, 7, 1, 0);
        far.settle(10);
        far.setGate(6, false);
        far.settle(1);
        CHECKS.row("canals into a far loop", "5 5", far.canalTo(5, 7), far.canalTo(6, 7));
        for (int basin = 0; basin <= 6; basin++) {
            CHECKS.same("a way into a loop from " + basin, true, far.isLoop(basin, 7));
        }
        CHECKS.same("7 has no way", false, far.isLoop(7, 7));
    }

    private static void noLoopIfTheWayEndsOrComesThere() {
        LockgateRouter net = settled(1, 1, 1, 1, 1, 1, 1);
        for (int basin = 0; basin < 8; basin++) {
            for (int other = 0; other < 8; other++) {
                CHECKS.same("comes there: " + basin + " " + other, false, net.isLoop(basin, other));
            }
        }
        LockgateRouter ends = settled(1, 1);
        ends.setGate(1, false);
        ends.settle(1);
        CHECKS.row("a way that ends at once", "-1 0", ends.canalTo(2, 0), ends.isLoop(2, 0) ? 1 : 0);
        LockgateRouter broken = cutOffFrom3(3);
        CHECKS.row("41 by 1: the way from 0 to 3 ends in 2", "0 1 -1", broken.canalTo(0, 3), broken.canalTo(1, 3), broken.canalTo(2, 3));
        CHECKS.row("a way that ends later on", "0 0 0", broken.isLoop(0, 3) ? 1 : 0, broken.isLoop(1, 3) ? 1 : 0, broken.loops());
        LockgateRouter round = cutOffFrom3(2);
        CHECKS.row("40 by 1: the way from 0 to 3 goes back to 1", "0 1 1", round.canalTo(0, 3), round.canalTo(1, 3), round.canalTo(2, 3));
        CHECKS.row("a way that goes back", "1 1 3", round.isLoop(0, 3) ? 1 : 0, round.isLoop(1, 3) ? 1 : 0, round.loops());
    }

    /** 0 - 1 - 2 - 3 with costs of 1, 14 and length + 10; behind one tick without the last canal. */
    private static LockgateRouter cutOffFrom3(int length) {
        LockgateRouter net = chain(1, 9, length);
        net.rain(0, 100);
        net.rain(1, 100);
        net.dry(11);
        net.settle(10);
        net.setGate(2, false);
        net.settle(1);
        return net;
    }

    private static void loopsOfOrderedPairs() {
        CHECKS.same("none at first", 0, new LockgateRouter().loops());
        CHECKS.same("none when still", 0, settled(1, 1, 1, 1, 1, 1, 1).loops());
        CHECKS.same("0 and 1 to 3", 2, Nets.looping().loops());
        LockgateRouter net = settled(1, 1, 1, 1, 1, 1, 1);
        net.setGate(6, false);
        CHECKS.same("ahead of the tick", 0, net.loops());
        net.settle(1);
        CHECKS.same("0 to 6, each to 7", 7, net.loops());
        net.setGate(0, false);
        net.settle(1);
        int both = 0;
        for (int basin = 0; basin < 8; basin++) {
            for (int other = 0; other < 8; other++) {
                both += net.isLoop(basin, other) ? 1 : 0;
            }
        }
        CHECKS.same("as many as isLoop tells", both, net.loops());
        net.settle(50);
        CHECKS.same("gone when still", 0, net.loops());
    }
}
