/** What later calls make of a LockgateRouter, as a text: it tells of marks, gates and ways that no look shows. */
final class Afterwards {
    private static final int BASINS = 8;
    private static final int MOST_TICKS = 2000;

    private Afterwards() {
    }

    /** Changes the net; together with what a Snapshot asks it would be above 512 calls. */
    static String of(LockgateRouter net) {
        StringBuilder text = new StringBuilder("gates");
        int canals = net.canals();
        for (int canal = 0; canal < canals; canal++) {
            boolean wasOpen = net.setGate(canal, true);
            net.setGate(canal, wasOpen);
            text.append(' ').append(wasOpen);
        }
        text.append("; marks");
        for (int basin = 0; basin < BASINS; basin++) {
            int mark = net.setMark(basin, 6);
            net.setMark(basin, mark);
            text.append(' ').append(mark);
        }
        addTicks(text, net);
        addBasinsAndBarges(text, net);
        return text.toString();
    }

    private static void addTicks(StringBuilder text, LockgateRouter net) {
        for (int tick = 0; tick < 3 && net.ticks() < MOST_TICKS; tick++) {
            text.append("; sent ").append(net.move(1));
        }
        text.append("; ticks ").append(net.ticks()).append("; changed ").append(net.settle(1));
        if (net.ticks() < MOST_TICKS) {
            text.append("; sent ").append(net.move(1));
        }
        text.append("; changed ").append(net.settle(1)).append("; spilt ").append(net.spilt());
    }

    private static void addBasinsAndBarges(StringBuilder text, LockgateRouter net) {
        for (int basin = 0; basin < BASINS; basin++) {
            text.append("; basin ").append(net.rain(basin, 1)).append(' ').append(net.queued(basin, 0));
        }
        int barges = net.barges();
        for (int barge = 0; barge < barges; barge++) {
            text.append("; barge ").append(net.state(barge)).append(' ').append(net.basinOf(barge));
            text.append(' ').append(net.repeats(barge)).append(' ').append(net.life(barge));
        }
    }
}
