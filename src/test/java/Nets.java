/** Nets that more than one test begins with. */
final class Nets {
    private Nets() {
    }

    /** 1 goes to 3 by 0, and 0 by 1, as the canal from 0 to 3 was shut. */
    static LockgateRouter looping() {
        LockgateRouter net = new LockgateRouter();
        net.dig(0, 1, 1, 0);
        net.dig(0, 3, 9, 0);
        net.settle(5);
        net.setGate(1, false);
        net.settle(1);
        return net;
    }
}
