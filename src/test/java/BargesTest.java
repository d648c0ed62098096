/** Promises 8, 9 and 22 to 31: barges. */
public final class BargesTest {
    private static final Checks CHECKS = new Checks();
    private static final int[] NO_BASINS = {-1, 8, Integer.MIN_VALUE, Integer.MAX_VALUE};
    private static final int[] NO_BARGES = {-1, 3, 40, Integer.MIN_VALUE, Integer.MAX_VALUE};

    public static void main(String[] args) {
        promise8SetOut();
        promise8Refuses();
        promise8FullBasin();
        promise8FortyBarges();
        promise9OrderOfBasins();
        promise9NotTwiceInATick();
        promise9OnlyTheFirst();
        promise9WaitsWithoutAWay();
        promise9FullBasinAhead();
        promise9MarkAndEvenTicks();
        promise9MarkIsNotForTheDestination();
        promise9WaterWithinATick();
        promise9Refuses();
        promise9NoMoreThan2000Ticks();
        promise22Barges();
        promise23Ticks();
        promise24And25StateAndBasin();
        promise26And27HopsAndLife();
        promise27LifeEnds();
        promise28Repeats();
        promise29And30Queues();
        promise31LaidBy();
        promises24To30Refuse();
        CHECKS.end("BargesTest");
    }

    /** Barge 0 waits in 1 and comes from 0, barge 1 has arrived in 1, barge 2 is laid by in 1. */
    private static LockgateRouter three() {
        LockgateRouter net = Nets.chain(3);
        net.setOut(0, 3, 9);
        net.setOut(0, 1, 9);
        net.setOut(0, 3, 1);
        net.setGate(1, false);
        net.move(3);
        return net;
    }

    private static LockgateRouter withFullBasin() {
        LockgateRouter net = Nets.chain(2);
        Nets.fill(net, 0, 2, 6);
        return net;
    }

    private static LockgateRouter withFortyBarges() {
        LockgateRouter net = new LockgateRouter();
        for (int i = 0; i < 40; i++) {
            net.setOut(3, 3, 20);
        }
        return net;
    }

    private static LockgateRouter with1990Ticks() {
        LockgateRouter net = Nets.chain(2);
        for (int i = 0; i < 39; i++) {
            net.move(50);
        }
        net.move(40);
        net.setOut(0, 2, 20);
        return net;
    }

    private static void promise8SetOut() {
        LockgateRouter net = Nets.chain(2);
        CHECKS.row("8: numbers", "0 1 2", net.setOut(0, 2, 1), net.setOut(1, 1, 20), net.setOut(0, 7, 20));
        CHECKS.row("8: at its destination it has arrived", "0 1 0", net.state(0), net.state(1), net.state(2));
        CHECKS.row("8: the end of the queue", "2 0 2 -1", net.queue(0), net.queued(0, 0), net.queued(0, 1), net.queued(0, 2));
        CHECKS.row("8: who has arrived is in no queue", "0 -1", net.queue(1), net.queued(1, 0));
        CHECKS.row("8: lives", "1 20 20", net.life(0), net.life(1), net.life(2));
        CHECKS.row("8: no hops", "0 0 0", net.hops(0), net.hops(1), net.repeats(0));
    }

    private static void promise8Refuses() {
        for (int basin : NO_BASINS) {
            CHECKS.noIndex("8: basin " + basin, BargesTest::three, net -> net.setOut(basin, 1, 1));
            CHECKS.noIndex("8: destination " + basin, BargesTest::three, net -> net.setOut(1, basin, 1));
            CHECKS.noIndex("8: both, and life " + basin, BargesTest::three, net -> net.setOut(basin, basin, 0));
        }
        for (int life : new int[] {0, 21, -1, Integer.MIN_VALUE, Integer.MAX_VALUE}) {
            CHECKS.noArgument("8: life " + life, BargesTest::three, net -> net.setOut(0, 1, life));
            CHECKS.noArgument("8: at its destination, life " + life, BargesTest::three, net -> net.setOut(1, 1, life));
        }
    }

    private static void promise8FullBasin() {
        CHECKS.same("8: 6 wait", 6, withFullBasin().queue(0));
        CHECKS.noState("8: the 7th", BargesTest::withFullBasin, net -> net.setOut(0, 1, 1));
        CHECKS.noIndex("8: the 7th, no destination", BargesTest::withFullBasin, net -> net.setOut(0, 8, 1));
        CHECKS.noArgument("8: the 7th, life", BargesTest::withFullBasin, net -> net.setOut(0, 1, 0));
        LockgateRouter net = withFullBasin();
        CHECKS.row("8: at its destination it needs no place", "6 1 6", net.setOut(0, 0, 1), net.state(6), net.queue(0));
        CHECKS.row("8: a full destination is no matter", "7 0", net.setOut(1, 0, 1), net.state(7));
        LockgateRouter marked = Nets.chain(2);
        marked.setMark(0, 1);
        Nets.fill(marked, 0, 2, 6);
        CHECKS.same("8: the mark does not keep from setting out", 6, marked.queue(0));
    }

    private static void promise8FortyBarges() {
        CHECKS.same("8: 40 set out", 40, withFortyBarges().barges());
        CHECKS.noState("8: the 41st", BargesTest::withFortyBarges, net -> net.setOut(0, 1, 1));
        CHECKS.noState("8: the 41st, at its destination", BargesTest::withFortyBarges, net -> net.setOut(0, 0, 1));
        CHECKS.noIndex("8: the 41st, no basin", BargesTest::withFortyBarges, net -> net.setOut(8, 0, 1));
        CHECKS.noArgument("8: the 41st, life", BargesTest::withFortyBarges, net -> net.setOut(0, 0, 21));
    }

    private static void promise9OrderOfBasins() {
        LockgateRouter net = Nets.chain(2);
        net.setOut(2, 0, 9);
        net.setOut(0, 2, 9);
        CHECKS.same("9: two are sent", 2, net.move(1));
        CHECKS.row("9: the lower basin sends first", "1 0", net.queued(1, 0), net.queued(1, 1));
        CHECKS.row("9: then one of the two", "1 2 1", net.move(1), net.basinOf(1), net.basinOf(0));
        CHECKS.row("9: then the other one", "1 0", net.move(1), net.basinOf(0));
        CHECKS.row("9: then none", "0 4", net.move(1), net.ticks());
    }

    private static void promise9NotTwiceInATick() {
        LockgateRouter net = Nets.chain(4);
        net.setOut(0, 4, 9);
        CHECKS.row("9: one canal a tick, up", "1 1", net.move(1), net.basinOf(0));
        CHECKS.row("9: another one a tick", "1 2", net.move(1), net.basinOf(0));
        CHECKS.row("9: several ticks count together", "2 4", net.move(5), net.basinOf(0));
        LockgateRouter down = Nets.chain(4);
        down.setOut(4, 0, 9);
        CHECKS.row("9: one canal a tick, down", "1 3", down.move(1), down.basinOf(0));
        LockgateRouter behind = Nets.chain(3);
        behind.setOut(0, 3, 9);
        behind.setOut(1, 3, 9);
        CHECKS.row("9: the first one goes although one came behind it", "2 1 2", behind.move(1), behind.basinOf(0), behind.basinOf(1));
    }

    private static void promise9OnlyTheFirst() {
        LockgateRouter net = Nets.chain(1);
        net.setOut(0, 7, 9);
        net.setOut(0, 1, 9);
        CHECKS.row("9: one without a way holds up those behind", "0 2 0 1", net.move(4), net.queue(0), net.queued(0, 0), net.queued(0, 1));
        LockgateRouter three = Nets.chain(1);
        Nets.fill(three, 0, 1, 3);
        CHECKS.row("9: one a tick", "1 2 1", three.move(1), three.queue(0), three.queued(0, 0));
    }

    private static void promise9WaitsWithoutAWay() {
        LockgateRouter net = Nets.chain(1);
        net.setOut(0, 1, 9);
        net.setGate(0, false);
        CHECKS.row("9: a shut gate", "0 0 9 0", net.move(3), net.state(0), net.life(0), net.hops(0));
        net.setGate(0, true);
        CHECKS.same("9: open again", 1, net.move(3));
        LockgateRouter dry = new LockgateRouter();
        dry.dig(0, 1, 1, 9);
        dry.settle(1);
        dry.setOut(1, 0, 9);
        dry.dry(50);
        dry.rain(1, 50);
        dry.rain(0, 8);
        CHECKS.row("9: too little water above", "0 13", dry.move(2), dry.water(0));
        dry.rain(0, 1);
        CHECKS.row("9: enough", "1 5 64", dry.move(2), dry.water(0), dry.water(1));
        LockgateRouter later = new LockgateRouter();
        later.dig(0, 1, 1, 0);
        later.setOut(0, 1, 9);
        CHECKS.row("9: no table, no way", "0 0", later.move(2), later.basinOf(0));
        later.settle(1);
        CHECKS.row("9: a table, a way", "1 1", later.move(2), later.basinOf(0));
    }

    private static void promise9FullBasinAhead() {
        LockgateRouter net = Nets.chain(2);
        Nets.fill(net, 1, 7, 6);
        net.setOut(0, 2, 9);
        CHECKS.row("9: not into a full basin", "0 0 6", net.move(4), net.basinOf(6), net.queue(1));
        LockgateRouter goal = Nets.chain(2);
        Nets.fill(goal, 1, 7, 6);
        goal.setOut(0, 1, 9);
        CHECKS.row("9: into a full one that is the destination", "1 1 6", goal.move(1), goal.state(6), goal.queue(1));
        LockgateRouter five = Nets.chain(2);
        five.setMark(1, 6);
        Nets.fill(five, 1, 7, 5);
        five.setOut(0, 2, 9);
        CHECKS.row("9: 5 are not full", "1 6", five.move(1), five.queue(1));
        LockgateRouter leaves = Nets.chain(2);
        leaves.setMark(0, 6);
        Nets.fill(leaves, 0, 2, 6);
        leaves.setOut(1, 0, 9);
        CHECKS.row("9: one place was made in the same tick", "2 5", leaves.move(1), leaves.queue(0));
    }

    private static void promise9MarkAndEvenTicks() {
        LockgateRouter net = Nets.chain(3);
        net.setMark(1, 2);
        net.setGate(1, false);
        Nets.fill(net, 0, 3, 6);
        CHECKS.row("9: below the mark, odd and even", "1 1", net.move(1), net.move(1));
        CHECKS.row("9: at the mark, odd", "0 2", net.move(1), net.queue(1));
        CHECKS.row("9: at the mark, even", "1 3", net.move(1), net.queue(1));
        CHECKS.row("9: above the mark, odd and even", "0 1 4", net.move(1), net.move(1), net.queue(1));
        net.setMark(1, 5);
        CHECKS.row("9: a higher mark, odd", "1 5", net.move(1), net.queue(1));
        CHECKS.row("9: even again", "1 6 0", net.move(1), net.queue(1), net.queue(0));
        LockgateRouter first = Nets.chain(2);
        Nets.fill(first, 1, 7, 3);
        first.setOut(0, 2, 9);
        CHECKS.same("9: 3 are below the first mark", 1, first.move(1));
        LockgateRouter fourth = Nets.chain(2);
        Nets.fill(fourth, 1, 7, 4);
        fourth.setOut(0, 2, 9);
        CHECKS.row("9: 4 are not", "0 1", fourth.move(1), fourth.move(1));
    }

    private static void promise9MarkIsNotForTheDestination() {
        LockgateRouter net = Nets.chain(2);
        net.setMark(1, 1);
        Nets.fill(net, 1, 7, 3);
        net.setOut(0, 1, 9);
        CHECKS.row("9: to the destination in an odd tick", "1 1 1", net.move(1), net.ticks(), net.state(3));
    }

    private static void promise9WaterWithinATick() {
        LockgateRouter net = new LockgateRouter();
        net.dig(1, 2, 1, 9);
        net.dig(0, 1, 1, 9);
        net.settle(3);
        net.dry(50);
        net.rain(0, 9);
        net.setOut(0, 1, 9);
        net.setOut(1, 2, 9);
        CHECKS.row("9: the water of the first is there for the second", "2 5 5 14", net.move(1), net.water(0), net.water(1), net.water(2));
        LockgateRouter other = new LockgateRouter();
        other.dig(1, 2, 1, 9);
        other.settle(3);
        other.dry(50);
        other.rain(1, 9);
        other.setOut(1, 2, 9);
        other.setOut(2, 1, 9);
        CHECKS.row("9: the first takes what the second lacks", "1 0", other.move(1), other.state(1));
    }

    private static void promise9Refuses() {
        for (int ticks : new int[] {0, 51, -1, Integer.MIN_VALUE, Integer.MAX_VALUE}) {
            CHECKS.noArgument("9: move " + ticks, BargesTest::withFullBasin, net -> net.move(ticks));
            CHECKS.noArgument("9: move late " + ticks, BargesTest::with1990Ticks, net -> net.move(ticks));
        }
    }

    private static void promise9NoMoreThan2000Ticks() {
        CHECKS.same("9: ticks", 1990, with1990Ticks().ticks());
        CHECKS.noState("9: 2001", BargesTest::with1990Ticks, net -> net.move(11));
        CHECKS.noState("9: 2040", BargesTest::with1990Ticks, net -> net.move(50));
        LockgateRouter net = with1990Ticks();
        CHECKS.row("9: 2000", "2 2000 1", net.move(10), net.ticks(), net.state(0));
        CHECKS.noState("9: 2000 and 1", () -> {
            LockgateRouter full = with1990Ticks();
            full.move(10);
            return full;
        }, full -> full.move(1));
    }

    private static void promise22Barges() {
        CHECKS.row("22: barges", "0 3 40", new LockgateRouter().barges(), three().barges(), withFortyBarges().barges());
    }

    private static void promise23Ticks() {
        LockgateRouter net = new LockgateRouter();
        net.move(1);
        net.move(50);
        net.dry(3);
        net.settle(7);
        CHECKS.same("23: ticks of barges", 51, net.ticks());
    }

    private static void promise24And25StateAndBasin() {
        LockgateRouter net = three();
        CHECKS.row("24: states", "0 1 2", net.state(0), net.state(1), net.state(2));
        CHECKS.row("25: basins", "1 1 1", net.basinOf(0), net.basinOf(1), net.basinOf(2));
        net.setGate(1, true);
        net.move(3);
        CHECKS.row("24: and later", "1 1 2", net.state(0), net.state(1), net.state(2));
        CHECKS.row("25: and later", "3 1 1", net.basinOf(0), net.basinOf(1), net.basinOf(2));
        LockgateRouter there = new LockgateRouter();
        there.setOut(5, 5, 1);
        there.setOut(6, 5, 1);
        CHECKS.row("24: set out", "1 0", there.state(0), there.state(1));
        CHECKS.row("25: set out", "5 6", there.basinOf(0), there.basinOf(1));
    }

    private static void promise26And27HopsAndLife() {
        LockgateRouter net = Nets.chain(3);
        net.setOut(0, 3, 9);
        net.move(1);
        CHECKS.row("26, 27: one hop", "1 8", net.hops(0), net.life(0));
        net.move(1);
        CHECKS.row("26, 27: two", "2 7", net.hops(0), net.life(0));
        net.move(5);
        CHECKS.row("26, 27: arrived", "3 6", net.hops(0), net.life(0));
        net.setOut(3, 3, 4);
        net.setOut(3, 7, 4);
        net.move(5);
        CHECKS.row("26, 27: arrived at once", "0 4", net.hops(1), net.life(1));
        CHECKS.row("26, 27: to wait costs nothing", "0 4", net.hops(2), net.life(2));
    }

    private static void promise27LifeEnds() {
        LockgateRouter net = Nets.chain(3);
        net.setOut(0, 2, 2);
        net.setOut(0, 3, 2);
        net.move(4);
        CHECKS.row("27: the last of its life brings it there", "1 2 2 0", net.state(0), net.basinOf(0), net.hops(0), net.life(0));
        CHECKS.row("27: one canal short", "2 2 2 0", net.state(1), net.basinOf(1), net.hops(1), net.life(1));
        CHECKS.row("27: who is laid by waits no more", "0 -1 0", net.queue(2), net.queued(2, 0), net.move(2));
    }

    private static void promise28Repeats() {
        LockgateRouter net = Nets.looping();
        net.setOut(1, 3, 20);
        net.move(1);
        CHECKS.row("28: a new basin", "0 0", net.repeats(0), net.basinOf(0));
        net.move(1);
        CHECKS.row("28: where it set out", "1 1", net.repeats(0), net.basinOf(0));
        net.move(2);
        CHECKS.row("28: each time", "3 1", net.repeats(0), net.basinOf(0));
        LockgateRouter dead = Nets.looping();
        dead.setOut(1, 3, 2);
        dead.move(2);
        CHECKS.row("28: one that is laid by came there too", "2 1 1", dead.state(0), dead.basinOf(0), dead.repeats(0));
        LockgateRouter through = Nets.chain(3);
        through.setOut(0, 3, 9);
        through.setOut(3, 3, 9);
        through.move(5);
        CHECKS.row("28: none on a straight way", "0 0", through.repeats(0), through.repeats(1));
    }

    private static void promise29And30Queues() {
        LockgateRouter net = Nets.chain(2);
        net.setOut(0, 2, 9);
        net.setOut(1, 0, 9);
        net.setOut(0, 2, 9);
        CHECKS.row("29: queues", "2 1 0", net.queue(0), net.queue(1), net.queue(7));
        CHECKS.row("30: places", "0 2 -1 -1", net.queued(0, 0), net.queued(0, 1), net.queued(0, 2), net.queued(0, 6));
        CHECKS.row("30: of another basin", "1 -1 -1", net.queued(1, 0), net.queued(1, Integer.MAX_VALUE), net.queued(7, 0));
        net.move(1);
        CHECKS.row("29: after a tick", "1 1", net.queue(0), net.queue(1));
        CHECKS.row("30: after a tick", "2 0", net.queued(0, 0), net.queued(1, 0));
    }

    private static void promise31LaidBy() {
        LockgateRouter net = Nets.chain(3);
        CHECKS.same("31: none", 0, net.laidBy());
        net.setOut(0, 3, 1);
        net.setOut(0, 3, 3);
        net.setOut(0, 3, 2);
        net.setOut(2, 2, 1);
        CHECKS.row("31: set out", "0", net.laidBy());
        CHECKS.row("31: tick by tick, laid by", "1 1", net.move(1), net.laidBy());
        CHECKS.row("31: the second one goes on", "1 1", net.move(1), net.laidBy());
        CHECKS.row("31: the second arrives, the third is laid by", "4 2", net.move(2), net.laidBy());
        CHECKS.row("31: which", "2 1 2 1", net.state(0), net.state(1), net.state(2), net.state(3));
    }

    private static void promises24To30Refuse() {
        for (int barge : NO_BARGES) {
            CHECKS.noIndex("24: barge " + barge, BargesTest::three, net -> net.state(barge));
            CHECKS.noIndex("25: barge " + barge, BargesTest::three, net -> net.basinOf(barge));
            CHECKS.noIndex("26: barge " + barge, BargesTest::three, net -> net.hops(barge));
            CHECKS.noIndex("27: barge " + barge, BargesTest::three, net -> net.life(barge));
            CHECKS.noIndex("28: barge " + barge, BargesTest::three, net -> net.repeats(barge));
        }
        for (int basin : NO_BASINS) {
            CHECKS.noIndex("29: basin " + basin, BargesTest::three, net -> net.queue(basin));
            CHECKS.noIndex("30: basin " + basin, BargesTest::three, net -> net.queued(basin, 0));
            CHECKS.noIndex("30: basin and place " + basin, BargesTest::three, net -> net.queued(basin, -1));
        }
        for (int place : new int[] {-1, Integer.MIN_VALUE}) {
            CHECKS.noArgument("30: place " + place, BargesTest::three, net -> net.queued(1, place));
        }
    }
}
