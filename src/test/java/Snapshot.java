/** What can be seen of a LockgateRouter without changing it, as a text, in fewer than 512 calls. */
final class Snapshot {
    private static final int BASINS = 8;

    private Snapshot() {
    }

    static String of(LockgateRouter net) {
        StringBuilder text = new StringBuilder();
        text.append(net.canals()).append(' ').append(net.allWater()).append(' ').append(net.spilt());
        text.append(' ').append(net.areStill()).append(' ').append(net.loops());
        int barges = net.barges();
        text.append(' ').append(barges).append(' ').append(net.ticks()).append(' ').append(net.laidBy());
        int canals = net.canals();
        for (int canal = 0; canal < canals; canal++) {
            text.append("; canal ").append(net.cost(canal)).append(' ').append(net.canPass(canal));
        }
        for (int basin = 0; basin < BASINS; basin++) {
            addBasin(text, net, basin);
        }
        for (int barge = 0; barge < barges; barge++) {
            text.append("; barge ").append(net.state(barge)).append(' ').append(net.basinOf(barge));
            text.append(' ').append(net.hops(barge)).append(' ').append(net.life(barge));
            text.append(' ').append(net.repeats(barge));
        }
        return text.toString();
    }

    private static void addBasin(StringBuilder text, LockgateRouter net, int basin) {
        text.append("; basin ").append(net.water(basin)).append(" queue");
        int waiting = net.queue(basin);
        for (int place = 0; place < waiting; place++) {
            text.append(' ').append(net.queued(basin, place));
        }
        for (int other = 0; other < BASINS; other++) {
            text.append(", ").append(net.distance(basin, other)).append(' ').append(net.canalTo(basin, other));
            text.append(' ').append(net.cheapest(basin, other));
        }
    }
}
