import java.util.ArrayList;
import java.util.Arrays;
import java.util.List;
import java.util.Random;

/** Long runs of calls, the same in each run of this test, held against PlainModel. */
public final class ModelTest {
    private static final Checks CHECKS = new Checks();
    private static final int RUNS = 1500;
    private static final int CALLS = 512;
    private static final String[] CHANGES = {
        "dig", "dig", "setGate", "setGate", "setMark", "rain", "dry", "settle", "settle", "settle",
        "setOut", "setOut", "setOut", "move", "move", "move", "move",
    };
    private static final String[] LOOKS = {
        "canals", "water", "allWater", "spilt", "cost", "canPass", "distance", "canalTo", "areStill", "cheapest",
        "isLoop", "loops", "barges", "ticks", "state", "basinOf", "hops", "life", "repeats", "queue", "queued", "laidBy",
    };

    public static void main(String[] args) {
        for (int run = 0; run < RUNS; run++) {
            compareRun(run);
        }
        CHECKS.end("ModelTest");
    }

    private static void compareRun(int run) {
        Random random = new Random(run);
        LockgateRouter net = new LockgateRouter();
        PlainModel model = new PlainModel();
        int basins = 3 + run % 6;
        int longest = 1 + run % 50;
        List<String> told = new ArrayList<>();
        for (int i = 0; i < CALLS; i++) {
            boolean look = random.nextInt(10) < 5;
            String name = look ? LOOKS[random.nextInt(LOOKS.length)] : CHANGES[random.nextInt(CHANGES.length)];
            int[] a = arguments(name, random, basins, longest);
            String due = model.call(name, a);
            String got = answer(net, name, a);
            told.add(name + Arrays.toString(a) + " -> " + got);
            if (!due.equals(got)) {
                CHECKS.same("run " + run + " " + told, due, got);
                return;
            }
        }
        CHECKS.same("run " + run, "as due", "as due");
    }

    /** Mostly what is in range; now and then what is just outside, or far. */
    private static int in(Random random, int least, int most) {
        int kind = random.nextInt(80);
        if (kind == 0) {
            return least - 1;
        }
        if (kind == 1) {
            return most + 1;
        }
        if (kind == 2) {
            return random.nextBoolean() ? Integer.MIN_VALUE : Integer.MAX_VALUE;
        }
        return least + random.nextInt(most - least + 1);
    }

    private static int[] arguments(String name, Random random, int basins, int longest) {
        int basin = random.nextInt(60) == 0 ? random.nextInt(11) - 1 : random.nextInt(basins);
        int other = random.nextInt(60) == 0 ? random.nextInt(11) - 1 : random.nextInt(basins);
        switch (name) {
            case "dig": return new int[] {basin, other, in(random, 1, 9), in(random, 0, 9)};
            case "setGate": return new int[] {in(random, 0, 13), random.nextInt(3) == 0 ? 0 : 1};
            case "setMark": return new int[] {basin, in(random, 1, 6)};
            case "rain": return new int[] {basin, in(random, 1, random.nextInt(4) == 0 ? 200 : 40)};
            case "dry": return new int[] {in(random, 1, random.nextInt(8) == 0 ? 50 : 4)};
            case "settle": return new int[] {in(random, 1, random.nextInt(4) == 0 ? 50 : 3)};
            // The runs with the longest moves come to 2000 ticks, and are refused more.
            case "move": return new int[] {longest == 50 ? in(random, 40, 50) : in(random, 1, random.nextInt(4) == 0 ? 50 : 1 + longest / 4)};
            case "setOut": return new int[] {basin, other, in(random, 1, 20)};
            case "cost":
            case "canPass": return new int[] {in(random, 0, 13)};
            case "water":
            case "queue": return new int[] {basin};
            case "distance":
            case "canalTo":
            case "cheapest":
            case "isLoop": return new int[] {basin, other};
            case "queued": return new int[] {basin, in(random, 0, 6)};
            case "state":
            case "basinOf":
            case "hops":
            case "life":
            case "repeats": return new int[] {in(random, 0, 39)};
            default: return new int[0];
        }
    }

    private static String answer(LockgateRouter net, String name, int[] a) {
        try {
            switch (name) {
                case "setGate": return String.valueOf(net.setGate(a[0], a[1] == 1));
                case "canPass": return String.valueOf(net.canPass(a[0]));
                case "areStill": return String.valueOf(net.areStill());
                case "isLoop": return String.valueOf(net.isLoop(a[0], a[1]));
                default: return String.valueOf(number(net, name, a));
            }
        } catch (RuntimeException thrown) {
            return Checks.nameOf(thrown);
        }
    }

    private static int number(LockgateRouter net, String name, int[] a) {
        switch (name) {
            case "dig": return net.dig(a[0], a[1], a[2], a[3]);
            case "setMark": return net.setMark(a[0], a[1]);
            case "rain": return net.rain(a[0], a[1]);
            case "dry": return net.dry(a[0]);
            case "settle": return net.settle(a[0]);
            case "setOut": return net.setOut(a[0], a[1], a[2]);
            case "move": return net.move(a[0]);
            case "canals": return net.canals();
            case "water": return net.water(a[0]);
            case "allWater": return net.allWater();
            case "spilt": return net.spilt();
            case "cost": return net.cost(a[0]);
            case "distance": return net.distance(a[0], a[1]);
            case "canalTo": return net.canalTo(a[0], a[1]);
            case "cheapest": return net.cheapest(a[0], a[1]);
            case "loops": return net.loops();
            case "barges": return net.barges();
            case "ticks": return net.ticks();
            case "state": return net.state(a[0]);
            case "basinOf": return net.basinOf(a[0]);
            case "hops": return net.hops(a[0]);
            case "life": return net.life(a[0]);
            case "repeats": return net.repeats(a[0]);
            case "queue": return net.queue(a[0]);
            case "queued": return net.queued(a[0], a[1]);
            case "laidBy": return net.laidBy();
            default: throw new UnsupportedOperationException("no such call " + name);
        }
    }
}
