/**
 * The boundaries that the document names for barges, sentence by sentence: just inside and just outside. What is
 * refused has its tests in RefusalsTest.
 */
public final class TermsOfBargesTest {
    private static final Checks CHECKS = new Checks();

    public static void main(String[] args) {
        bargesAreNumberedFrom0();
        atMost40SetOut();
        aQueueOfAtMost6();
        aFullBasinThatIsTheDestination();
        arrivedAtOnceAtItsDestination();
        lifeFrom1To20();
        ticksBecome1More();
        ticksFrom1To50();
        ticksUpTo2000();
        byRisingNumbers();
        aPlaceThatIsMadeInTheTick();
        unlessItCameThereInThisTick();
        oneThatSetOutDidNotComeInATick();
        theCanalOfTheTableIfThereIsOne();
        theCanalCanBePassed();
        fewerThan6OrTheDestination();
        asManyAsItsMarkOrMore();
        whoDoesNotWaitCountsForNoMark();
        hops1MoreAndLife1Less();
        arrivedWithALifeOf0();
        laidByWithALifeOf0();
        theLastOfItsLifeWaitsForAPlaceToo();
        theEndOfTheQueue();
        repeats();
        placesOfAQueue();
        laidByCounts();
        CHECKS.end("TermsOfBargesTest");
    }

    /** Barges without a way: they wait where they set out. */
    private static void fill(LockgateRouter net, int basin, int barges) {
        Nets.fill(net, basin, 7, barges);
    }

    private static int no(boolean yes) {
        return yes ? 0 : 1;
    }

    // ---- setOut

    private static void bargesAreNumberedFrom0() {
        LockgateRouter net = new LockgateRouter();
        for (int barge = 0; barge < 40; barge++) {
            int number = barge;
            CHECKS.same("barges ahead of " + barge, barge, net.barges());
            CHECKS.noIndex("state ahead of " + barge, () -> withArrived(number), other -> other.state(number));
            CHECKS.same("number of " + barge, barge, net.setOut(barge % 8, barge % 8, 1 + barge % 20));
            CHECKS.row("barge " + barge, "1 " + barge % 8 + " " + (1 + barge % 20), net.state(barge), net.basinOf(barge), net.life(barge));
        }
    }

    private static LockgateRouter withArrived(int barges) {
        LockgateRouter net = new LockgateRouter();
        for (int barge = 0; barge < barges; barge++) {
            net.setOut(3, 3, 1);
        }
        return net;
    }

    private static void atMost40SetOut() {
        LockgateRouter net = withArrived(39);
        CHECKS.row("the 40th waits", "39 0 1 40", net.setOut(3, 4, 1), net.state(39), net.queue(3), net.barges());
        CHECKS.row("the 40th has arrived", "39 40", withArrived(39).setOut(4, 4, 1), withArrived(40).barges());
        CHECKS.noState("the 41st", () -> withArrived(40), other -> other.setOut(3, 4, 1));
        CHECKS.noState("the 41st, at its destination", () -> withArrived(40), other -> other.setOut(3, 3, 1));
    }

    private static LockgateRouter withWaiting(int barges) {
        LockgateRouter net = Nets.chain(2);
        fill(net, 0, barges);
        return net;
    }

    private static void aQueueOfAtMost6() {
        for (int waiting = 0; waiting < 6; waiting++) {
            LockgateRouter net = withWaiting(waiting);
            CHECKS.row("one more than " + waiting, waiting + " " + (waiting + 1) + " " + waiting,
                    net.setOut(0, 2, 1), net.queue(0), net.queued(0, waiting));
        }
        CHECKS.noState("one more than 6", () -> withWaiting(6), net -> net.setOut(0, 2, 1));
        LockgateRouter another = withWaiting(6);
        CHECKS.row("6 in another basin", "6 1", another.setOut(1, 2, 1), another.queue(1));
        CHECKS.row("6 at the destination", "7 2", another.setOut(1, 0, 1), another.queue(1));
        LockgateRouter again = Nets.chain(2);
        Nets.fill(again, 0, 2, 6);
        CHECKS.row("one was sent: one more sets out", "1 5 6 6", again.move(1), again.queue(0), again.setOut(0, 2, 1), again.queue(0));
        LockgateRouter marked = Nets.chain(2);
        marked.setMark(0, 1);
        fill(marked, 0, 6);
        CHECKS.same("the mark keeps none from setting out", 6, marked.queue(0));
    }

    private static void aFullBasinThatIsTheDestination() {
        for (int waiting = 5; waiting <= 6; waiting++) {
            LockgateRouter net = withWaiting(waiting);
            CHECKS.row(waiting + " wait, and is the destination", waiting + " 1 " + waiting + " 0",
                    net.setOut(0, 0, 1), net.state(waiting), net.queue(0), net.basinOf(waiting));
        }
    }

    private static void arrivedAtOnceAtItsDestination() {
        LockgateRouter net = Nets.chain(1);
        CHECKS.row("arrived at once", "0 1 0 0 -1", net.setOut(1, 1, 1), net.state(0), net.queue(1), net.hops(0), net.queued(1, 0));
        CHECKS.row("and stays", "0 1 1 1 0 0", net.move(3), net.state(0), net.basinOf(0), net.life(0), net.repeats(0), net.laidBy());
        CHECKS.row("another destination", "1 0 1 1", net.setOut(1, 0, 1), net.state(1), net.queue(1), net.queued(1, 0));
    }

    private static void lifeFrom1To20() {
        for (int life = 1; life <= 20; life++) {
            LockgateRouter net = new LockgateRouter();
            CHECKS.row("life " + life, "0 1 " + life + " " + life, net.setOut(0, 1, life), net.setOut(1, 1, life), net.life(0), net.life(1));
        }
        for (int life : new int[] {0, 21}) {
            CHECKS.noArgument("life " + life, LockgateRouter::new, net -> net.setOut(0, 1, life));
            CHECKS.noArgument("life " + life + " at its destination", LockgateRouter::new, net -> net.setOut(1, 1, life));
        }
    }

    // ---- move

    private static void ticksBecome1More() {
        LockgateRouter net = new LockgateRouter();
        CHECKS.row("without barges", "0 0 1 0 51", net.ticks(), net.move(1), net.ticks(), net.move(50), net.ticks());
        LockgateRouter one = Nets.chain(1);
        one.setOut(0, 1, 1);
        CHECKS.row("with one that is sent", "1 1 0 2", one.move(1), one.ticks(), one.move(1), one.ticks());
    }

    private static void ticksFrom1To50() {
        // Ten barges go round between 0 and 1; each tick sends two of them.
        for (int ticks : new int[] {1, 2, 49, 50}) {
            LockgateRouter net = roundTrips();
            CHECKS.row(ticks + " ticks", 2 * ticks + " " + ticks, net.move(ticks), net.ticks());
        }
        for (int ticks : new int[] {0, 51}) {
            CHECKS.noArgument(ticks + " ticks", TermsOfBargesTest::roundTrips, net -> net.move(ticks));
        }
    }

    private static LockgateRouter roundTrips() {
        LockgateRouter net = Nets.looping();
        net.setMark(0, 6);
        net.setMark(1, 6);
        for (int i = 0; i < 5; i++) {
            net.setOut(0, 3, 20);
            net.setOut(1, 3, 20);
        }
        return net;
    }

    private static LockgateRouter withTicks(int last) {
        LockgateRouter net = Nets.chain(1);
        for (int i = 0; i < 39; i++) {
            net.move(50);
        }
        net.move(last);
        net.setOut(0, 1, 1);
        return net;
    }

    private static void ticksUpTo2000() {
        LockgateRouter net = withTicks(49);
        CHECKS.row("the 2000th", "1 2000 1", net.move(1), net.ticks(), net.state(0));
        LockgateRouter many = withTicks(1);
        CHECKS.row("the last 49", "1 2000", many.move(49), many.ticks());
        CHECKS.noState("the last 49 and 1", () -> withTicks(1), other -> other.move(50));
        CHECKS.noState("2000 and 1", () -> withTicks(50), other -> other.move(1));
        CHECKS.noState("1999 and 2: not one of them", () -> withTicks(49), other -> other.move(2));
        CHECKS.noArgument("2000 and 51", () -> withTicks(50), other -> other.move(51));
        CHECKS.noArgument("2000 and 0", () -> withTicks(50), other -> other.move(0));
    }

    private static void byRisingNumbers() {
        LockgateRouter star = new LockgateRouter();
        for (int basin = 7; basin >= 3; basin--) {
            star.dig(basin, 2, 1, 0);
            star.setOut(basin, 1, 9);
        }
        star.dig(2, 1, 1, 0);
        star.settle(2);
        star.setGate(5, false);
        star.setMark(2, 6);
        CHECKS.same("all but 0, 1 and 2 send", 5, star.move(1));
        CHECKS.row("3 comes first, 7 last", "4 3 2 1 0", star.queued(2, 0), star.queued(2, 1), star.queued(2, 2), star.queued(2, 3), star.queued(2, 4));
        LockgateRouter ends = Nets.chain(2);
        ends.setOut(2, 0, 9);
        ends.setOut(0, 2, 9);
        CHECKS.row("0 ahead of 2", "2 1 0", ends.move(1), ends.queued(1, 0), ends.queued(1, 1));
    }

    private static void aPlaceThatIsMadeInTheTick() {
        LockgateRouter down = downThrough1();
        CHECKS.row("a lower basin has made a place", "2 6 0", down.move(1), down.queue(1), down.queue(2));
        LockgateRouter up = upThrough1();
        CHECKS.row("a higher basin has not made one yet", "1 5 1", up.move(1), up.queue(1), up.queue(0));
        CHECKS.row("it has in the next tick", "2 5 0", up.move(1), up.queue(1), up.queue(0));
    }

    /** 1 is full and goes to 0; 2 has one for 0. */
    private static LockgateRouter downThrough1() {
        LockgateRouter net = Nets.chain(2);
        net.setMark(1, 6);
        Nets.fill(net, 1, 0, 6);
        net.setOut(2, 0, 9);
        return net;
    }

    /** 1 is full and goes to 2; 0 has one for 2. */
    private static LockgateRouter upThrough1() {
        LockgateRouter net = Nets.chain(2);
        net.setMark(1, 6);
        Nets.fill(net, 1, 2, 6);
        net.setOut(0, 2, 9);
        return net;
    }

    private static void unlessItCameThereInThisTick() {
        LockgateRouter up = Nets.chain(4);
        up.setOut(0, 4, 9);
        for (int tick = 1; tick <= 4; tick++) {
            CHECKS.row("one canal in tick " + tick, "1 " + tick, up.move(1), up.basinOf(0));
        }
        LockgateRouter together = Nets.chain(4);
        together.setOut(0, 4, 9);
        CHECKS.row("two ticks at once", "2 2", together.move(2), together.basinOf(0));
        LockgateRouter down = Nets.chain(4);
        down.setOut(4, 0, 9);
        CHECKS.row("one canal a tick, downward", "1 3 1 2", down.move(1), down.basinOf(0), down.move(1), down.basinOf(0));
        LockgateRouter behind = Nets.chain(3);
        behind.setOut(1, 3, 9);
        behind.setOut(0, 3, 9);
        CHECKS.row("one that waited there is sent", "2 2 1", behind.move(1), behind.basinOf(0), behind.basinOf(1));
        CHECKS.row("the one that came there follows", "2 3 2", behind.move(1), behind.basinOf(0), behind.basinOf(1));
        LockgateRouter waits = Nets.chain(2);
        waits.setGate(1, false);
        waits.setOut(0, 2, 9);
        waits.move(1);
        waits.setGate(1, true);
        CHECKS.row("one that came in the tick before", "1 2", waits.move(1), waits.basinOf(0));
    }

    private static void oneThatSetOutDidNotComeInATick() {
        LockgateRouter net = Nets.chain(1);
        net.setOut(0, 1, 9);
        CHECKS.row("ahead of the first tick", "1 1", net.move(1), net.state(0));
        net.setOut(0, 1, 9);
        CHECKS.row("behind a tick", "1 1", net.move(1), net.state(1));
    }

    private static void theCanalOfTheTableIfThereIsOne() {
        LockgateRouter net = new LockgateRouter();
        net.dig(0, 1, 1, 0);
        net.setOut(0, 1, 9);
        CHECKS.row("no canal yet", "0 0 9 1", net.move(2), net.state(0), net.life(0), net.queue(0));
        net.settle(1);
        CHECKS.row("a canal", "1 1 8 0", net.move(1), net.state(0), net.life(0), net.queue(0));
        LockgateRouter held = Nets.chain(2);
        fill(held, 0, 1);
        held.setOut(0, 2, 9);
        CHECKS.row("the first one without a canal holds up the second", "0 0 1", held.move(2), held.queued(0, 0), held.queued(0, 1));
        LockgateRouter other = new LockgateRouter();
        other.dig(0, 1, 1, 0);
        other.dig(0, 1, 2, 0);
        other.settle(1);
        other.setGate(0, false);
        other.setOut(0, 1, 9);
        CHECKS.row("the table's canal is shut, another one is open", "0 1", other.move(2), no(other.canPass(0)));
        other.settle(1);
        CHECKS.row("the table has heard", "1 1", other.move(1), other.state(0));
    }

    private static void theCanalCanBePassed() {
        for (int water = 13; water <= 14; water++) {
            LockgateRouter net = new LockgateRouter();
            net.dry(50);
            net.dig(0, 1, 1, 9);
            net.settle(1);
            net.rain(0, water - 5);
            net.setOut(0, 1, 9);
            net.setOut(1, 0, 9);
            int sent = water - 13;
            CHECKS.row("two barges and " + water, sent + " " + (water - 9 * sent), net.move(3), net.water(0));
            CHECKS.row("the lower number was sent", sent + " 0", net.state(0), net.state(1));
        }
        LockgateRouter again = new LockgateRouter();
        again.dry(50);
        again.dig(1, 2, 1, 9);
        again.dig(0, 1, 1, 9);
        again.settle(3);
        again.rain(0, 9);
        again.setOut(0, 1, 9);
        again.setOut(1, 2, 9);
        CHECKS.row("0 gives 1 the water in the same tick", "2 5 5 14", again.move(1), again.water(0), again.water(1), again.water(2));
        LockgateRouter late = new LockgateRouter();
        late.dry(50);
        late.dig(0, 2, 1, 9);
        late.dig(1, 0, 1, 9);
        late.settle(3);
        late.rain(1, 9);
        late.setOut(0, 2, 9);
        late.setOut(1, 0, 9);
        CHECKS.row("1 gives 0 the water for the next tick", "1 14 1 5", late.move(1), late.water(0), late.move(1), late.water(0));
    }

    private static void fewerThan6OrTheDestination() {
        for (int waiting = 0; waiting <= 6; waiting++) {
            for (int destination = 1; destination <= 2; destination++) {
                LockgateRouter net = Nets.chain(2);
                net.setMark(1, 6);
                fill(net, 1, waiting);
                net.setOut(0, destination, 9);
                boolean sent = waiting < 6 || destination == 1;
                String what = waiting + " wait in 1, destination " + destination;
                CHECKS.same(what, sent ? 1 : 0, net.move(1));
                int more = sent && destination == 2 ? 1 : 0;
                CHECKS.row(what + ": then", (waiting + more) + " " + no(sent), net.queue(1), net.queue(0));
                if (!sent) {
                    CHECKS.same(what + ": even", 0, net.move(1));
                }
            }
        }
    }

    private static void asManyAsItsMarkOrMore() {
        for (int mark = 1; mark <= 6; mark++) {
            for (int waiting = 0; waiting <= 6; waiting++) {
                sentWithMark(mark, waiting, 1, waiting < 6 && waiting < mark);
                sentWithMark(mark, waiting, 2, waiting < 6);
                toTheDestinationWithMark(mark, waiting);
            }
        }
        LockgateRouter from = Nets.chain(2);
        from.setMark(0, 1);
        Nets.fill(from, 0, 2, 2);
        CHECKS.same("the mark of the basin that sends is no matter", 1, from.move(1));
        LockgateRouter first = Nets.chain(2);
        fill(first, 1, 3);
        first.setOut(0, 2, 9);
        CHECKS.row("the mark at first: 3 are fewer", "1 4", first.move(1), first.queue(1));
        first.move(1);
        first.setOut(0, 2, 9);
        CHECKS.row("the mark at first: 4 are as many", "0 4 1 5", first.move(1), first.queue(1), first.move(1), first.queue(1));
    }

    private static void sentWithMark(int mark, int waiting, int tick, boolean sent) {
        LockgateRouter net = Nets.chain(2);
        net.setMark(1, mark);
        fill(net, 1, waiting);
        net.setGate(0, false);
        net.setOut(0, 2, 9);
        if (tick > 1) {
            net.move(tick - 1);
        }
        net.setGate(0, true);
        String what = "mark " + mark + ", " + waiting + " wait, tick " + tick;
        CHECKS.row(what, (sent ? 1 : 0) + " " + (sent ? waiting + 1 : waiting) + " " + tick, net.move(1), net.queue(1), net.ticks());
    }

    private static void toTheDestinationWithMark(int mark, int waiting) {
        LockgateRouter net = Nets.chain(2);
        net.setMark(1, mark);
        fill(net, 1, waiting);
        net.setOut(0, 1, 9);
        CHECKS.row("to the destination: mark " + mark + ", " + waiting + " wait", "1 1 " + waiting, net.move(1), net.state(waiting), net.queue(1));
    }

    private static void whoDoesNotWaitCountsForNoMark() {
        LockgateRouter net = Nets.chain(2);
        net.setMark(1, 1);
        for (int i = 0; i < 6; i++) {
            net.setOut(1, 1, 9);
        }
        net.setOut(0, 2, 1);
        CHECKS.row("6 have arrived in 1: the next comes and is laid by", "1 2 0", net.move(1), net.state(6), net.queue(1));
        LockgateRouter odd = Nets.chain(2);
        odd.setMark(1, 1);
        odd.setOut(1, 1, 9);
        odd.setOut(0, 2, 1);
        odd.move(2);
        odd.setOut(0, 2, 9);
        CHECKS.row("arrived and laid by in 1: an odd tick sends", "1 3 1", odd.move(1), odd.ticks(), odd.queue(1));
    }

    // ---- hops and lives

    private static void hops1MoreAndLife1Less() {
        LockgateRouter net = Nets.chain(7);
        net.setOut(0, 7, 20);
        for (int hops = 1; hops <= 7; hops++) {
            net.move(1);
            CHECKS.row("hops " + hops, hops + " " + (20 - hops) + " " + hops, net.hops(0), net.life(0), net.basinOf(0));
        }
        net.move(1);
        CHECKS.row("arrived: no more hops", "7 13", net.hops(0), net.life(0));
        net.setOut(3, 7, 5);
        net.setGate(3, false);
        net.move(5);
        CHECKS.row("to wait is no hop", "0 5 0", net.hops(1), net.life(1), net.state(1));
    }

    private static void arrivedWithALifeOf0() {
        for (int far = 1; far <= 7; far++) {
            LockgateRouter just = Nets.chain(7);
            just.setOut(0, far, far);
            CHECKS.row("a life of " + far + " for " + far, far + " 1 0 " + far + " 0", just.move(50), just.state(0), just.life(0), just.basinOf(0), just.laidBy());
            LockgateRouter more = Nets.chain(7);
            more.setOut(0, far, far + 1);
            CHECKS.row("a life of 1 more for " + far, far + " 1 1 " + far + " 0", more.move(50), more.state(0), more.life(0), more.basinOf(0), more.laidBy());
            if (far > 1) {
                LockgateRouter less = Nets.chain(7);
                less.setOut(0, far, far - 1);
                CHECKS.row("a life of 1 less for " + far, (far - 1) + " 2 0 " + (far - 1) + " 1", less.move(50), less.state(0), less.life(0), less.basinOf(0), less.laidBy());
                CHECKS.row("it waits no more", "0 -1", less.queue(far - 1), less.queued(far - 1, 0));
            }
        }
    }

    private static void laidByWithALifeOf0() {
        for (int life = 1; life <= 20; life++) {
            LockgateRouter net = Nets.looping();
            net.setOut(0, 3, life);
            if (life > 1) {
                net.move(life - 1);
                CHECKS.row("a life of 1 is left of " + life, "0 1 0 " + (life - 1), net.state(0), net.life(0), net.laidBy(), net.hops(0));
            }
            CHECKS.row("none is left of " + life, "1 2 0 1 " + life, net.move(1), net.state(0), net.life(0), net.laidBy(), net.hops(0));
            CHECKS.row("laid by in " + life % 2, life % 2 + " 0 0 0", net.basinOf(0), net.queue(0), net.queue(1), net.move(2));
        }
    }

    private static void theLastOfItsLifeWaitsForAPlaceToo() {
        LockgateRouter full = Nets.chain(2);
        fill(full, 1, 6);
        full.setOut(0, 2, 1);
        CHECKS.row("a full basin ahead", "0 0 1 0", full.move(4), full.state(6), full.life(6), full.laidBy());
        LockgateRouter marked = Nets.chain(2);
        fill(marked, 1, 4);
        marked.setOut(0, 2, 1);
        CHECKS.row("a mark ahead, odd", "0 0 1", marked.move(1), marked.state(4), marked.life(4));
        CHECKS.row("a mark ahead, even", "1 2 0 4", marked.move(1), marked.state(4), marked.life(4), marked.queue(1));
    }

    private static void theEndOfTheQueue() {
        LockgateRouter net = Nets.chain(3);
        net.setGate(1, false);
        fill(net, 1, 2);
        net.setOut(0, 3, 9);
        net.move(1);
        CHECKS.row("it comes to the end", "3 0 1 2", net.queue(1), net.queued(1, 0), net.queued(1, 1), net.queued(1, 2));
        net.setOut(1, 3, 9);
        CHECKS.row("one that sets out does too", "4 3", net.queue(1), net.queued(1, 3));
    }

    // ---- what is told of barges

    private static void repeats() {
        LockgateRouter net = Nets.looping();
        net.setOut(0, 3, 6);
        int[] due = {0, 1, 2, 3, 4, 5};
        for (int hop = 0; hop < due.length; hop++) {
            net.move(1);
            CHECKS.row("repeats of hop " + hop, due[hop] + " " + (hop + 1), net.repeats(0), net.hops(0));
        }
        CHECKS.row("the last one, by which it was laid by, too", "2 5", net.state(0), net.repeats(0));
        LockgateRouter straight = Nets.chain(7);
        straight.setOut(7, 0, 9);
        straight.setOut(0, 7, 9);
        straight.move(10);
        CHECKS.row("none on a straight way", "1 1 0 0", straight.state(0), straight.state(1), straight.repeats(0), straight.repeats(1));
        LockgateRouter back = Nets.chain(2);
        back.setGate(1, false);
        back.dig(0, 2, 9, 0);
        back.setOut(0, 2, 9);
        back.move(1);
        back.settle(10);
        back.move(2);
        CHECKS.row("where it set out is where it was", "1 2 3 1", back.state(0), back.basinOf(0), back.hops(0), back.repeats(0));
        LockgateRouter waits = Nets.chain(2);
        waits.setOut(0, 7, 9);
        waits.setOut(1, 1, 9);
        waits.move(5);
        CHECKS.row("to stay is no repeat", "0 0", waits.repeats(0), waits.repeats(1));
    }

    private static void placesOfAQueue() {
        for (int waiting = 0; waiting <= 6; waiting++) {
            LockgateRouter net = new LockgateRouter();
            fill(net, 5, waiting);
            CHECKS.same("waiting in 5", waiting, net.queue(5));
            for (int place = 0; place <= 7; place++) {
                CHECKS.same("place " + place + " of " + waiting, place < waiting ? place : -1, net.queued(5, place));
            }
            CHECKS.row("places of " + waiting + " that are far", "-1 -1", net.queued(5, 1000), net.queued(5, Integer.MAX_VALUE));
        }
        CHECKS.noArgument("place -1 of none", LockgateRouter::new, net -> net.queued(5, -1));
        CHECKS.noArgument("place -1 of 6", () -> withWaiting(6), net -> net.queued(0, -1));
    }

    private static void laidByCounts() {
        LockgateRouter net = Nets.chain(2);
        CHECKS.same("none set out", 0, net.laidBy());
        net.setOut(1, 1, 1);
        net.setOut(0, 1, 1);
        net.setOut(0, 2, 1);
        net.setOut(0, 2, 1);
        net.setOut(0, 2, 9);
        CHECKS.row("none has moved", "0", net.laidBy());
        CHECKS.row("the first has arrived", "1 0", net.move(1), net.laidBy());
        CHECKS.row("the next is laid by", "1 1", net.move(1), net.laidBy());
        CHECKS.row("another one", "1 2", net.move(1), net.laidBy());
        CHECKS.row("the last has arrived", "2 2 1 1 2 2 1", net.move(5), net.laidBy(), net.state(0), net.state(1), net.state(2), net.state(3), net.state(4));
    }
}
