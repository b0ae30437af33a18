import java.util.ArrayList;
import java.util.List;
import java.util.Random;

/** Random relations, held against orders, rings and links that are found by trying all ways. */
public final class LayersBruteTest {
    private static final int MOST = 7;

    private final Random random;
    private final DigHouse house = new DigHouse();
    private final int count;
    private final List<int[]> relations = new ArrayList<>();
    private int[] number;
    private boolean[][] below;
    private boolean[][] over;
    private final int[] groupOf = new int[16];
    private List<Integer> ring = new ArrayList<>();
    private List<Integer> groupRing = new ArrayList<>();

    private LayersBruteTest(int seed) {
        random = new Random(seed);
        count = 2 + random.nextInt(MOST - 1);
        for (int i = 0; i < count; i++) {
            house.context();
        }
        java.util.Arrays.fill(groupOf, -1);
        reckon();
    }

    public static void main(String[] args) {
        for (int seed = 0; seed < 400; seed++) {
            new LayersBruteTest(seed).run();
        }
        Due.end();
    }

    private void run() {
        for (int g = 0; g < 3; g++) {
            int group = g;
            Due.is(group, () -> house.layerGroup());
        }
        for (int i = 0; i < 25; i++) {
            int dice = random.nextInt(10);
            if (dice < 6) {
                relate(random.nextInt(count), random.nextInt(count), Math.min(4, random.nextInt(6)));
            } else if (dice < 8 && !relations.isEmpty()) {
                undo(random.nextInt(relations.size()));
            } else {
                into(random.nextInt(3), random.nextInt(count));
            }
            compare();
        }
    }

    private void relate(int a, int b, int kind) {
        List<Integer> would = null;
        int x = number[a];
        int y = number[b];
        if (kind < 3) {
            boolean was = below[x][y];
            below[x][y] = true;
            would = shortestRing(below, x);
            below[x][y] = was;
        } else if (kind == 3 && (over[x][y] || over[y][x])) {
            int top = over[x][y] ? x : y;
            int low = top == x ? y : x;
            boolean was = below[low][top];
            below[low][top] = true;
            would = shortestRing(below, top);
            below[low][top] = was;
        }
        int due = would == null ? relations.size() : -1;
        Due.is(due, () -> house.layerRelate(a, b, kind));
        if (would == null) {
            relations.add(new int[] {a, b, kind});
            reckon();
        } else {
            ring = would;
        }
    }

    private void undo(int relation) {
        boolean counts = relations.get(relation)[2] >= 0;
        Due.compare(String.valueOf(counts), String.valueOf(house.layerUndo(relation)));
        relations.get(relation)[2] = -1;
        reckon();
    }

    private void into(int group, int context) {
        int was = groupOf[context];
        groupOf[context] = group;
        boolean[][] groupsOver = new boolean[3][3];
        for (int a = 0; a < count; a++) {
            for (int b = 0; b < count; b++) {
                if (groupOf[a] >= 0 && groupOf[b] >= 0 && groupOf[a] != groupOf[b] && over[number[a]][number[b]]) {
                    groupsOver[groupOf[a]][groupOf[b]] = true;
                }
            }
        }
        List<Integer> would = shortestRing(groupsOver, group);
        Due.compare(String.valueOf(would == null), String.valueOf(house.layerInto(group, context)));
        if (would != null) {
            groupRing = would;
            groupOf[context] = was;
        }
    }

    /** All rings through a number are tried. */
    private static List<Integer> shortestRing(boolean[][] next, int start) {
        List<List<Integer>> found = new ArrayList<>();
        List<Integer> path = new ArrayList<>();
        path.add(start);
        walk(next, path, found);
        List<Integer> best = null;
        for (List<Integer> one : found) {
            if (best == null || one.size() < best.size() || one.size() == best.size() && isLess(one, best)) {
                best = one;
            }
        }
        return best;
    }

    private static boolean isLess(List<Integer> one, List<Integer> other) {
        for (int i = 0; i < one.size(); i++) {
            if (!one.get(i).equals(other.get(i))) {
                return one.get(i) < other.get(i);
            }
        }
        return false;
    }

    private static void walk(boolean[][] next, List<Integer> path, List<List<Integer>> found) {
        int last = path.get(path.size() - 1);
        for (int i = 0; i < next.length; i++) {
            if (next[last][i] && i == path.get(0)) {
                found.add(new ArrayList<>(path));
            } else if (next[last][i] && !path.contains(i)) {
                path.add(i);
                walk(next, path, found);
                path.remove(path.size() - 1);
            }
        }
    }

    private void reckon() {
        number = new int[count];
        for (int i = 0; i < count; i++) {
            number[i] = i;
        }
        for (int pass = 0; pass < count; pass++) {
            for (int[] r : relations) {
                if (r[2] == 3) {
                    int least = Math.min(number[r[0]], number[r[1]]);
                    number[r[0]] = least;
                    number[r[1]] = least;
                }
            }
        }
        below = new boolean[count][count];
        for (int[] r : relations) {
            if (r[2] >= 0 && r[2] < 3) {
                below[number[r[0]]][number[r[1]]] = true;
            }
        }
        over = new boolean[count][count];
        for (int a = 0; a < count; a++) {
            reach(a, a);
        }
    }

    private void reach(int from, int here) {
        for (int b = 0; b < count; b++) {
            if (below[here][b] && !over[from][b]) {
                over[from][b] = true;
                reach(from, b);
            }
        }
    }

    private int longestTo(int x) {
        int best = 0;
        for (int a = 0; a < count; a++) {
            if (over[a][x]) {
                best = Math.max(best, 1 + longestTo(a));
            }
        }
        return best;
    }

    private void compare() {
        List<int[]> links = new ArrayList<>();
        int pairs = 0;
        int joined = 0;
        for (int a = 0; a < count; a++) {
            joined += number[a] == a ? 1 : 0;
            int x = a;
            Due.is(number[a], () -> house.layerEqual(x));
            Due.is(longestTo(number[a]), () -> house.layerLongest(x));
            Due.is(groupOf[a], () -> house.layerGroupOf(x));
            for (int b = 0; b < count; b++) {
                int y = b;
                int order = over[number[a]][number[b]] ? 1 : over[number[b]][number[a]] ? -1 : 0;
                Due.is(order, () -> house.layerOrder(x, y));
                boolean told = number[a] == number[b];
                for (int[] r : relations) {
                    told |= r[2] == 4 && (number[r[0]] == number[a] && number[r[1]] == number[b]
                            || number[r[1]] == number[a] && number[r[0]] == number[b]);
                }
                Due.compare(String.valueOf(told), String.valueOf(house.layerContemporary(a, b)));
                pairs += over[a][b] ? 1 : 0;
                if (over[a][b] && isNext(a, b)) {
                    links.add(new int[] {a, b});
                }
            }
        }
        Due.is(links.size(), () -> house.layerLinks());
        for (int k = 0; k < links.size(); k++) {
            int at = k;
            Due.is(links.get(k)[0], () -> house.layerLink(at, 0));
            Due.is(links.get(k)[1], () -> house.layerLink(at, 1));
        }
        Due.compare(joined + " " + pairs, house.layerCount(2) + " " + house.layerCount(3));
        for (int k = 0; k <= 8; k++) {
            int at = k;
            Due.is(k < ring.size() ? ring.get(k) : -1, () -> house.layerRing(at));
            Due.is(k < groupRing.size() ? groupRing.get(k) : -1, () -> house.layerGroupRing(at));
        }
    }

    private boolean isNext(int a, int b) {
        for (int c = 0; c < count; c++) {
            if (over[a][c] && over[c][b]) {
                return false;
            }
        }
        return true;
    }
}
