/** Nets that more than one test begins with. */
final class Nets {
    private Nets() {
    }

    /** 1 goes to 3 by 0, and 0 by 1, as the canal from 0 to 3 was shut. */
    static LockgateRouter looping() {
        LockgateRouter net = new LockgateRouter();
        net.dig(0, 1, 1, 0);
        net.dig(0, 3, 9, 0);
        net.settle(5);
        net.setGate(1, false);
        net.settle(1);
        return net;
    }

    /** 0 - 1 - 2 - ... with lengths of 1 and lifts of 0, settled; each canal is numbered as its upper basin. */
    static LockgateRouter chain(int canals) {
        LockgateRouter net = new LockgateRouter();
        for (int i = 0; i < canals; i++) {
            net.dig(i, i + 1, 1, 0);
        }
        net.settle(10);
        return net;
    }

    /** As many barges, with the longest life, wait in the basin, behind those that are there. */
    static void fill(LockgateRouter net, int basin, int destination, int barges) {
        for (int i = 0; i < barges; i++) {
            net.setOut(basin, destination, 20);
        }
    }
}
