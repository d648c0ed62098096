import java.util.function.Supplier;

/**
 * What "Terms" say of exceptions, for every call: just inside and just outside each range, which of several
 * exceptions is thrown, and that a call that throws, or only looks, changes nothing.
 */
public final class RefusalsTest {
    private static final Checks CHECKS = new Checks();
    private static final int NO_LIMIT = Integer.MAX_VALUE;
    private static final int CANALS = 4;
    private static final int BARGES = 6;

    private static final Limit BASIN = new Limit(0, 7, IndexOutOfBoundsException.class);
    private static final Limit CANAL = new Limit(0, CANALS - 1, IndexOutOfBoundsException.class);
    private static final Limit BARGE = new Limit(0, BARGES - 1, IndexOutOfBoundsException.class);
    private static final Limit ANY = new Limit(Integer.MIN_VALUE, NO_LIMIT, null);

    private interface Act {
        void on(LockgateRouter net, int[] a);
    }

    /** What an argument may be, and what is thrown if it is not. */
    private record Limit(int least, int most, Class<?> due) {
    }

    private record Call(String name, Act act, int[] good, Limit... limits) {
        String with(int[] a) {
            StringBuilder text = new StringBuilder(name).append('(');
            for (int i = 0; i < a.length; i++) {
                text.append(i == 0 ? "" : ", ").append(a[i]);
            }
            return text.append(')').toString();
        }

        int[] goodBut(int place, int value) {
            int[] a = good.clone();
            a[place] = value;
            return a;
        }
    }

    private static final Call DIG = new Call("dig", (net, a) -> net.dig(a[0], a[1], a[2], a[3]), new int[] {2, 3, 4, 5},
            BASIN, BASIN, argument(1, 9), argument(0, 9));
    private static final Call SET_OUT = new Call("setOut", (net, a) -> net.setOut(a[0], a[1], a[2]), new int[] {2, 3, 5},
            BASIN, BASIN, argument(1, 20));
    private static final Call MOVE = new Call("move", (net, a) -> net.move(a[0]), new int[] {2}, argument(1, 50));

    private static final Call[] CHANGES = {
        DIG,
        new Call("setGate", (net, a) -> net.setGate(a[0], a[1] > 0), new int[] {1, 1}, CANAL, ANY),
        new Call("setMark", (net, a) -> net.setMark(a[0], a[1]), new int[] {2, 3}, BASIN, argument(1, 6)),
        new Call("rain", (net, a) -> net.rain(a[0], a[1]), new int[] {2, 30}, BASIN, argument(1, 200)),
        new Call("dry", (net, a) -> net.dry(a[0]), new int[] {2}, argument(1, 50)),
        new Call("settle", (net, a) -> net.settle(a[0]), new int[] {2}, argument(1, 50)),
        SET_OUT,
        MOVE,
    };
    private static final Call[] LOOKS = {
        new Call("canals", (net, a) -> net.canals(), new int[0]),
        new Call("water", (net, a) -> net.water(a[0]), new int[] {2}, BASIN),
        new Call("allWater", (net, a) -> net.allWater(), new int[0]),
        new Call("spilt", (net, a) -> net.spilt(), new int[0]),
        new Call("cost", (net, a) -> net.cost(a[0]), new int[] {1}, CANAL),
        new Call("canPass", (net, a) -> net.canPass(a[0]), new int[] {1}, CANAL),
        new Call("distance", (net, a) -> net.distance(a[0], a[1]), new int[] {0, 3}, BASIN, BASIN),
        new Call("canalTo", (net, a) -> net.canalTo(a[0], a[1]), new int[] {0, 3}, BASIN, BASIN),
        new Call("areStill", (net, a) -> net.areStill(), new int[0]),
        new Call("cheapest", (net, a) -> net.cheapest(a[0], a[1]), new int[] {0, 3}, BASIN, BASIN),
        new Call("isLoop", (net, a) -> net.isLoop(a[0], a[1]), new int[] {0, 3}, BASIN, BASIN),
        new Call("loops", (net, a) -> net.loops(), new int[0]),
        new Call("barges", (net, a) -> net.barges(), new int[0]),
        new Call("ticks", (net, a) -> net.ticks(), new int[0]),
        new Call("state", (net, a) -> net.state(a[0]), new int[] {1}, BARGE),
        new Call("basinOf", (net, a) -> net.basinOf(a[0]), new int[] {1}, BARGE),
        new Call("hops", (net, a) -> net.hops(a[0]), new int[] {1}, BARGE),
        new Call("life", (net, a) -> net.life(a[0]), new int[] {1}, BARGE),
        new Call("repeats", (net, a) -> net.repeats(a[0]), new int[] {1}, BARGE),
        new Call("queue", (net, a) -> net.queue(a[0]), new int[] {1}, BASIN),
        new Call("queued", (net, a) -> net.queued(a[0], a[1]), new int[] {1, 0}, BASIN, argument(0, NO_LIMIT)),
        new Call("laidBy", (net, a) -> net.laidBy(), new int[0]),
    };

    public static void main(String[] args) {
        CHECKS.row("the net has what the limits tell", CANALS + " " + BARGES, busy().canals(), busy().barges());
        for (Call call : CHANGES) {
            insideEachRange(call);
            outsideEachRange(call, RefusalsTest::busy);
            twoOutside(call, RefusalsTest::busy);
        }
        for (Call call : LOOKS) {
            insideEachRange(call);
            outsideEachRange(call, RefusalsTest::busy);
            twoOutside(call, RefusalsTest::busy);
            looksChangeNothing(call);
        }
        noCanalsAndNoBarges();
        digBothTheSame();
        stateComesLast(DIG, RefusalsTest::with14Canals, RefusalsTest::with13Canals);
        stateComesLast(SET_OUT, RefusalsTest::with40Barges, RefusalsTest::with39Barges);
        stateComesLast(SET_OUT, RefusalsTest::withFullBasin, RefusalsTest::withNearlyFullBasin);
        stateComesLast(MOVE, RefusalsTest::with1999Ticks, RefusalsTest::with1998Ticks);
        digNoFurther();
        CHECKS.end("RefusalsTest");
    }

    private static Limit argument(int least, int most) {
        return new Limit(least, most, IllegalArgumentException.class);
    }

    // ---- nets

    /**
     * Tables that are not still, a loop, a gate that is shut, marks, water that was spilt; barges that wait, one
     * with a repeat, that have arrived, and that are laid by; an odd number of ticks.
     */
    private static LockgateRouter busy() {
        LockgateRouter net = Nets.looping();
        net.dig(1, 2, 2, 9);
        net.dig(7, 2, 3, 4);
        net.setMark(1, 2);
        net.setMark(7, 5);
        net.rain(5, 170);
        net.dry(3);
        net.setOut(1, 3, 20);
        net.setOut(0, 3, 1);
        net.setOut(0, 0, 7);
        net.setOut(0, 1, 9);
        net.setOut(7, 5, 4);
        net.setOut(1, 3, 8);
        net.move(3);
        return net;
    }

    private static LockgateRouter withCanals(int canals) {
        LockgateRouter net = new LockgateRouter();
        for (int i = 0; i < canals; i++) {
            net.dig(i % 8, (i + 3) % 8, 1 + i % 9, i % 10);
        }
        net.setOut(0, 3, 9);
        net.settle(1);
        return net;
    }

    private static LockgateRouter with13Canals() {
        return withCanals(13);
    }

    private static LockgateRouter with14Canals() {
        return withCanals(14);
    }

    private static LockgateRouter withBarges(int barges) {
        LockgateRouter net = new LockgateRouter();
        for (int i = 0; i < barges; i++) {
            net.setOut(6, i < 6 ? 5 : 6, 20);
        }
        return net;
    }

    private static LockgateRouter with39Barges() {
        return withBarges(39);
    }

    private static LockgateRouter with40Barges() {
        return withBarges(40);
    }

    private static LockgateRouter withWaiting(int barges) {
        LockgateRouter net = Nets.looping();
        net.dig(2, 0, 1, 0);
        net.settle(2);
        for (int i = 0; i < barges; i++) {
            net.setOut(2, i % 2, 20);
        }
        return net;
    }

    private static LockgateRouter withNearlyFullBasin() {
        return withWaiting(5);
    }

    private static LockgateRouter withFullBasin() {
        return withWaiting(6);
    }

    private static LockgateRouter withTicks(int last) {
        LockgateRouter net = Nets.looping();
        for (int i = 0; i < 39; i++) {
            net.move(50);
        }
        net.move(last);
        net.setOut(0, 3, 20);
        return net;
    }

    private static LockgateRouter with1998Ticks() {
        return withTicks(48);
    }

    private static LockgateRouter with1999Ticks() {
        return withTicks(49);
    }

    // ---- one argument

    private static void insideEachRange(Call call) {
        CHECKS.answered(call.with(call.good()), RefusalsTest::busy, net -> call.act().on(net, call.good()));
        for (int place = 0; place < call.limits().length; place++) {
            for (int value : new int[] {call.limits()[place].least(), call.limits()[place].most()}) {
                int[] a = call.goodBut(place, value);
                CHECKS.answered(call.with(a), RefusalsTest::busy, net -> call.act().on(net, a));
            }
        }
    }

    /** Just outside, and as far outside as a number goes. */
    private static int[] outside(Limit limit) {
        if (limit.due() == null) {
            return new int[0];
        }
        if (limit.most() == NO_LIMIT) {
            return new int[] {limit.least() - 1, Integer.MIN_VALUE};
        }
        return new int[] {limit.least() - 1, limit.most() + 1, Integer.MIN_VALUE, Integer.MAX_VALUE};
    }

    private static void outsideEachRange(Call call, Supplier<LockgateRouter> maker) {
        for (int place = 0; place < call.limits().length; place++) {
            for (int value : outside(call.limits()[place])) {
                int[] a = call.goodBut(place, value);
                CHECKS.refused(call.with(a), maker, net -> call.act().on(net, a), call.limits()[place].due());
            }
        }
    }

    private static void noCanalsAndNoBarges() {
        for (Call[] calls : new Call[][] {CHANGES, LOOKS}) {
            for (Call call : calls) {
                if (call.limits().length > 0 && (call.limits()[0] == CANAL || call.limits()[0] == BARGE)) {
                    int[] a = call.goodBut(0, 0);
                    CHECKS.noIndex("new: " + call.with(a), LockgateRouter::new, net -> call.act().on(net, a));
                }
            }
        }
    }

    private static void digBothTheSame() {
        for (int basin = 0; basin < 8; basin++) {
            int[] a = {basin, basin, 1, 0};
            CHECKS.noArgument(DIG.with(a), RefusalsTest::busy, net -> DIG.act().on(net, a));
        }
        for (int[] a : new int[][] {{0, 1, 1, 0}, {1, 0, 1, 0}, {6, 7, 1, 0}, {7, 6, 1, 0}}) {
            CHECKS.answered(DIG.with(a), RefusalsTest::busy, net -> DIG.act().on(net, a));
        }
        for (int[] a : new int[][] {{-1, -1, 1, 0}, {8, 8, 1, 0}}) {
            CHECKS.noIndex(DIG.with(a), RefusalsTest::busy, net -> DIG.act().on(net, a));
        }
    }

    // ---- several exceptions: "the one that is named first in the throws clause is thrown"

    private static void twoOutside(Call call, Supplier<LockgateRouter> maker) {
        for (int first = 0; first < call.limits().length; first++) {
            for (int second = first + 1; second < call.limits().length; second++) {
                for (int value : outside(call.limits()[second])) {
                    twoOutside(call, maker, first, second, value);
                }
            }
        }
    }

    private static void twoOutside(Call call, Supplier<LockgateRouter> maker, int first, int second, int value) {
        for (int other : outside(call.limits()[first])) {
            int[] a = call.goodBut(first, other);
            a[second] = value;
            CHECKS.refused(call.with(a), maker, net -> call.act().on(net, a), firstNamed(call, first, second));
        }
    }

    /** IndexOutOfBoundsException stands ahead of IllegalArgumentException in each throws clause that has both. */
    private static Class<?> firstNamed(Call call, int first, int second) {
        Class<?> one = call.limits()[first].due();
        return one == IndexOutOfBoundsException.class ? one : call.limits()[second].due();
    }

    /** IllegalStateException stands last in each throws clause. */
    private static void stateComesLast(Call call, Supplier<LockgateRouter> full, Supplier<LockgateRouter> nearlyFull) {
        CHECKS.answered("nearly full: " + call.with(call.good()), nearlyFull, net -> call.act().on(net, call.good()));
        CHECKS.noState("full: " + call.with(call.good()), full, net -> call.act().on(net, call.good()));
        outsideEachRange(call, full);
        twoOutside(call, full);
    }

    private static void digNoFurther() {
        for (int basin = 0; basin < 8; basin++) {
            int[] a = {basin, basin, 1, 0};
            CHECKS.noArgument("full: " + DIG.with(a), RefusalsTest::with14Canals, net -> DIG.act().on(net, a));
        }
        CHECKS.noIndex("full: dig(8, 8, 1, 0)", RefusalsTest::with14Canals, net -> net.dig(8, 8, 1, 0));
    }

    // ---- "nothing from here on changes anything"

    private static void looksChangeNothing(Call call) {
        CHECKS.unchanged(call.with(call.good()), RefusalsTest::busy, net -> call.act().on(net, call.good()));
        for (int place = 0; place < call.limits().length; place++) {
            for (int value : new int[] {call.limits()[place].least(), call.limits()[place].most()}) {
                int[] a = call.goodBut(place, value);
                CHECKS.unchanged(call.with(a), RefusalsTest::busy, net -> call.act().on(net, a));
            }
        }
    }
}
