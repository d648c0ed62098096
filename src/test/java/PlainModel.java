import java.util.ArrayDeque;
import java.util.ArrayList;
import java.util.Arrays;
import java.util.List;

/**
 * The document once more, built in another way than the program (tables and canals are rows of numbers, a tick
 * of tables asks entry by entry, cheapest ways are told by every pair with every one between), so that both can
 * be held against one another.
 */
final class PlainModel {
    private static final int FAR = 1_000_000;

    private final int[] water = new int[8];
    private final int[] mark = new int[8];
    private final List<ArrayDeque<Integer>> queues = new ArrayList<>();
    private final List<int[]> canals = new ArrayList<>();
    private final List<Boolean> open = new ArrayList<>();
    private int[][] distance = new int[8][8];
    private int[][] by = new int[8][8];
    /** Of each barge: destination, life, state; its way so far has all else. */
    private final List<int[]> barges = new ArrayList<>();
    private final List<List<Integer>> trails = new ArrayList<>();
    private int spilt;
    private int ticks;

    PlainModel() {
        Arrays.fill(water, 60);
        Arrays.fill(mark, 4);
        for (int b = 0; b < 8; b++) {
            queues.add(new ArrayDeque<>());
            Arrays.fill(distance[b], -1);
            Arrays.fill(by[b], -1);
            distance[b][b] = 0;
        }
    }

    /** Answers as text; a call that throws answers the simple name of its exception. */
    String call(String name, int[] a) {
        String refusal = refusal(name, a);
        return refusal != null ? refusal : answer(name, a);
    }

    private String refusal(String name, int[] a) {
        switch (name) {
            case "dig":
                if (noBasin(a[0]) || noBasin(a[1])) {
                    return "IndexOutOfBoundsException";
                }
                if (a[0] == a[1] || outside(a[2], 1, 9) || outside(a[3], 0, 9)) {
                    return "IllegalArgumentException";
                }
                return canals.size() == 14 ? "IllegalStateException" : null;
            case "setOut":
                if (noBasin(a[0]) || noBasin(a[1])) {
                    return "IndexOutOfBoundsException";
                }
                if (outside(a[2], 1, 20)) {
                    return "IllegalArgumentException";
                }
                boolean full = queues.get(a[0]).size() == 6 && a[0] != a[1];
                return barges.size() == 40 || full ? "IllegalStateException" : null;
            case "setMark":
                return noBasin(a[0]) ? "IndexOutOfBoundsException" : outside(a[1], 1, 6) ? "IllegalArgumentException" : null;
            case "rain":
                return noBasin(a[0]) ? "IndexOutOfBoundsException" : outside(a[1], 1, 200) ? "IllegalArgumentException" : null;
            case "queued":
                return noBasin(a[0]) ? "IndexOutOfBoundsException" : a[1] < 0 ? "IllegalArgumentException" : null;
            case "dry":
            case "settle":
                return outside(a[0], 1, 50) ? "IllegalArgumentException" : null;
            case "move":
                return outside(a[0], 1, 50) ? "IllegalArgumentException" : ticks + a[0] > 2000 ? "IllegalStateException" : null;
            case "setGate":
            case "cost":
            case "canPass":
                return outside(a[0], 0, canals.size() - 1) ? "IndexOutOfBoundsException" : null;
            case "water":
            case "queue":
                return noBasin(a[0]) ? "IndexOutOfBoundsException" : null;
            case "distance":
            case "canalTo":
            case "cheapest":
            case "isLoop":
                return noBasin(a[0]) || noBasin(a[1]) ? "IndexOutOfBoundsException" : null;
            case "state":
            case "basinOf":
            case "hops":
            case "life":
            case "repeats":
                return outside(a[0], 0, barges.size() - 1) ? "IndexOutOfBoundsException" : null;
            default:
                return null;
        }
    }

    private String answer(String name, int[] a) {
        switch (name) {
            case "setGate":
                return String.valueOf(open.set(a[0], a[1] == 1));
            case "canPass":
                return String.valueOf(passable(a[0]));
            case "areStill":
                return String.valueOf(changes(nextTables()) == 0);
            case "isLoop":
                return String.valueOf(loops(a[0], a[1]));
            default:
                return String.valueOf(number(name, a));
        }
    }

    private int number(String name, int[] a) {
        switch (name) {
            case "dig": canals.add(a.clone()); open.add(true); return canals.size() - 1;
            case "setMark": int before = mark[a[0]]; mark[a[0]] = a[1]; return before;
            case "rain": pour(a[0], a[1]); return water[a[0]];
            case "dry": return dry(a[0]);
            case "settle": return settle(a[0]);
            case "setOut": return setOut(a[0], a[1], a[2]);
            case "move": return move(a[0]);
            case "canals": return canals.size();
            case "water": return water[a[0]];
            case "allWater": return Arrays.stream(water).sum();
            case "spilt": return spilt;
            case "cost": return cost(a[0]);
            case "distance": return distance[a[0]][a[1]];
            case "canalTo": return by[a[0]][a[1]];
            case "cheapest": return cheapest(a[0], a[1]);
            case "loops": return allLoops();
            case "barges": return barges.size();
            case "ticks": return ticks;
            case "state": return barges.get(a[0])[2];
            case "basinOf": return last(trails.get(a[0]));
            case "hops": return trails.get(a[0]).size() - 1;
            case "life": return barges.get(a[0])[1];
            case "repeats": return trails.get(a[0]).size() - (int) trails.get(a[0]).stream().distinct().count();
            case "queue": return queues.get(a[0]).size();
            case "queued": return queued(a[0], a[1]);
            case "laidBy": return (int) barges.stream().filter(b -> b[2] == 2).count();
            default: throw new IllegalStateException("the model has no " + name);
        }
    }

    private static boolean noBasin(int basin) {
        return basin < 0 || basin > 7;
    }

    private static boolean outside(int value, int least, int most) {
        return value < least || value > most;
    }

    private static int last(List<Integer> trail) {
        return trail.get(trail.size() - 1);
    }

    private void pour(int basin, int more) {
        for (int i = 0; i < more; i++) {
            if (water[basin] == 200) {
                spilt++;
            } else {
                water[basin]++;
            }
        }
    }

    private int dry(int days) {
        for (int b = 0; b < 8; b++) {
            for (int i = 0; i < 3 * days && water[b] > 5; i++) {
                water[b]--;
            }
        }
        return (int) Arrays.stream(water).filter(w -> w < 30).count();
    }

    private int cost(int canal) {
        int sum = canals.get(canal)[2];
        for (int end = 0; end < 2; end++) {
            int w = water[canals.get(canal)[end]];
            sum += (w < 30 ? 5 : 0) + (w < 15 ? 5 : 0);
        }
        return sum;
    }

    private boolean passable(int canal) {
        return open.get(canal) && water[canals.get(canal)[0]] - canals.get(canal)[3] >= 5;
    }

    /** The neighbour at the other end, or -1 if the canal does not touch the basin. */
    private int neighbour(int basin, int canal) {
        int[] c = canals.get(canal);
        return c[0] == basin ? c[1] : c[1] == basin ? c[0] : -1;
    }

    private int[][][] nextTables() {
        int[][][] next = new int[2][8][8];
        for (int b = 0; b < 8; b++) {
            for (int other = 0; other < 8; other++) {
                int least = FAR;
                int canal = -1;
                for (int c = canals.size() - 1; c >= 0; c--) {
                    int n = neighbour(b, c);
                    if (n < 0 || !open.get(c) || distance[n][other] < 0) {
                        continue;
                    }
                    int sum = cost(c) + distance[n][other];
                    if (sum <= least) {
                        least = sum;
                        canal = c;
                    }
                }
                boolean none = least > 40;
                next[0][b][other] = b == other ? 0 : none ? -1 : least;
                next[1][b][other] = b == other || none ? -1 : canal;
            }
        }
        return next;
    }

    private int changes(int[][][] next) {
        int count = 0;
        for (int i = 0; i < 64; i++) {
            boolean same = next[0][i / 8][i % 8] == distance[i / 8][i % 8] && next[1][i / 8][i % 8] == by[i / 8][i % 8];
            count += same ? 0 : 1;
        }
        return count;
    }

    private int settle(int times) {
        int changed = 0;
        for (int i = 0; i < times; i++) {
            int[][][] next = nextTables();
            changed = changes(next);
            distance = next[0];
            by = next[1];
        }
        return changed;
    }

    private int setOut(int basin, int destination, int life) {
        barges.add(new int[] {destination, life, basin == destination ? 1 : 0});
        trails.add(new ArrayList<>(List.of(basin)));
        if (basin != destination) {
            queues.get(basin).addLast(barges.size() - 1);
        }
        return barges.size() - 1;
    }

    private int move(int times) {
        int sent = 0;
        for (int i = 0; i < times; i++) {
            ticks++;
            List<Integer> came = new ArrayList<>();
            for (int b = 0; b < 8; b++) {
                Integer first = queues.get(b).peekFirst();
                if (first != null && !came.contains(first) && send(b, first)) {
                    came.add(first);
                    sent++;
                }
            }
        }
        return sent;
    }

    private boolean send(int basin, int barge) {
        int[] it = barges.get(barge);
        int canal = by[basin][it[0]];
        if (canal < 0 || !passable(canal)) {
            return false;
        }
        int to = neighbour(basin, canal);
        int waiting = queues.get(to).size();
        if (to != it[0] && (waiting >= 6 || (waiting >= mark[to] && ticks % 2 == 1))) {
            return false;
        }
        queues.get(basin).removeFirst();
        water[canals.get(canal)[0]] -= canals.get(canal)[3];
        pour(canals.get(canal)[1], canals.get(canal)[3]);
        trails.get(barge).add(to);
        it[1]--;
        it[2] = to == it[0] ? 1 : it[1] == 0 ? 2 : 0;
        if (it[2] == 0) {
            queues.get(to).addLast(barge);
        }
        return true;
    }

    private int cheapest(int from, int to) {
        int[][] way = new int[8][8];
        for (int b = 0; b < 8; b++) {
            Arrays.fill(way[b], FAR);
            way[b][b] = 0;
        }
        for (int c = 0; c < canals.size(); c++) {
            int u = canals.get(c)[0];
            int l = canals.get(c)[1];
            int price = open.get(c) ? Math.min(way[u][l], cost(c)) : way[u][l];
            way[u][l] = price;
            way[l][u] = price;
        }
        for (int between = 0; between < 8; between++) {
            for (int i = 0; i < 64; i++) {
                way[i / 8][i % 8] = Math.min(way[i / 8][i % 8], way[i / 8][between] + way[between][i % 8]);
            }
        }
        return way[from][to] > 40 ? -1 : way[from][to];
    }

    private boolean loops(int from, int to) {
        List<Integer> seen = new ArrayList<>();
        int at = from;
        while (at != to && by[at][to] >= 0) {
            if (seen.contains(at)) {
                return true;
            }
            seen.add(at);
            at = neighbour(at, by[at][to]);
        }
        return false;
    }

    private int allLoops() {
        int count = 0;
        for (int i = 0; i < 64; i++) {
            count += loops(i / 8, i % 8) ? 1 : 0;
        }
        return count;
    }

    private int queued(int basin, int place) {
        return place < queues.get(basin).size() ? new ArrayList<>(queues.get(basin)).get(place) : -1;
    }
}
