import java.util.ArrayList;
import java.util.List;
import java.util.Random;

/** Random sheets, held against ones that are drawn here with lists of nodes. */
public final class SheetBruteTest {
    private static final class Node {
        final int group;
        int row;
        final List<Node> up = new ArrayList<>();
        final List<Node> down = new ArrayList<>();
        int sum;
        int count;

        Node(int group, int row) {
            this.group = group;
            this.row = row;
        }
    }

    private final Random random;
    private final DigHouse house = new DigHouse();
    private final int count;
    private final int[] phases = new int[16];
    private final boolean[] hidden = new boolean[16];
    private final boolean[][] told = new boolean[16][16];
    private final boolean[][] over = new boolean[16][16];
    private final Node[] nodes = new Node[16];
    private final List<List<Node>> links = new ArrayList<>();
    private List<List<Node>> rows = new ArrayList<>();

    /** Which context is right above which: with the phases that are told with them the links have 150 bends, and 151. */
    private static final String[] JUST_BENT = {"..111..1111111.1", "...1.1.111..1111", "....11..1111.111", ".....1...1.1.11.", ".............111",
        "..............11", ".......11..111.1", ".........1...11.", "...........1.111", "...............1", "...........1.111", "", ".............11."};
    private static final String[] TOO_BENT = {"..111..1111111.1", "...1.1.111.11111", "....11..111...11", ".....1...1.1.11.", ".............111",
        "..............11", ".......11..111.1", ".........1...11.", "...........1.111", "...............1", "...........1.111", "", ".............11."};

    private SheetBruteTest(int seed) {
        random = new Random(seed);
        count = seed % 4 == 0 ? 16 : 1 + random.nextInt(16);
    }

    private SheetBruteTest(int seed, int count) {
        random = new Random(seed);
        this.count = count;
    }

    private int runBent(String[] above, int... told) {
        for (int c = 0; c < count; c++) {
            house.context();
            phases[c] = told[c];
            house.phase(c, told[c]);
        }
        for (int a = 0; a < above.length; a++) {
            for (int b = 0; b < above[a].length(); b++) {
                if (above[a].charAt(b) == '1') {
                    house.layerRelate(a, b, 0);
                }
            }
        }
        takeOrder();
        int answer = house.draw(12);
        int kind = compare(12, answer);
        Due.is(kind == 0 ? 150 : 0, () -> house.sheetCount(4));
        return kind;
    }

    public static void main(String[] args) {
        int[] seen = new int[3];
        for (int seed = 0; seed < 1500; seed++) {
            seen[new SheetBruteTest(seed).run()]++;
        }
        Due.is(0, () -> new SheetBruteTest(0, 16).runBent(JUST_BENT, 0, 2, -1, 2, 0, 2, 0, 4, 3, -1, -1, 3, 4, 5, 5, 4));
        Due.is(2, () -> new SheetBruteTest(0, 16).runBent(TOO_BENT, 0, 2, -1, 2, 0, 2, 2, 4, 3, -1, 1, 3, 4, 5, 5, 4));
        System.out.println("drawn, misfits, too many bends: " + java.util.Arrays.toString(seen));
        Due.compare("true", String.valueOf(seen[0] > 400 && seen[1] > 50));
        Due.end();
    }

    private int run() {
        int density = 1 + random.nextInt(40);
        boolean phased = random.nextInt(3) == 0;
        boolean hides = random.nextInt(2) == 0;
        for (int c = 0; c < count; c++) {
            house.context();
            phases[c] = -1;
            if (phased && random.nextInt(2) == 0) {
                phases[c] = Math.min(5, c * 6 / count);
                house.phase(c, phases[c]);
            }
            hidden[c] = hides && random.nextInt(4) == 0;
            house.hide(c, hidden[c]);
        }
        for (int k = 0; k < density; k++) {
            int a = random.nextInt(count);
            int b = random.nextInt(count);
            if (random.nextInt(15) == 0) {
                house.layerRelate(a, b, 3);
            } else if (phased) {
                house.layerRelate(Math.min(a, b), Math.max(a, b), 0);
            } else {
                house.layerRelate(a, b, 1);
            }
        }
        takeOrder();
        int rounds = random.nextInt(13);
        return compare(rounds, house.draw(rounds));
    }

    private void takeOrder() {
        for (int k = 0; k < house.layerLinks(); k++) {
            told[house.layerLink(k, 0)][house.layerLink(k, 1)] = true;
        }
        for (int a = 0; a < count; a++) {
            for (int b = 0; b < count; b++) {
                over[a][b] = house.layerEqual(a) == a && house.layerEqual(b) == b && house.layerOrder(a, b) == 1;
            }
        }
    }

    private int phaseOf(int g) {
        int least = -1;
        for (int c = 0; c < count; c++) {
            if (house.layerEqual(c) == g && phases[c] >= 0) {
                least = least < 0 ? phases[c] : Math.min(least, phases[c]);
            }
        }
        return least;
    }

    private boolean isDrawn(int g) {
        boolean shown = false;
        for (int c = 0; c < count; c++) {
            shown |= house.layerEqual(c) == g && !hidden[c];
        }
        return shown;
    }

    private int compare(int rounds, int answer) {
        List<int[]> misfits = new ArrayList<>();
        for (int a = 0; a < count; a++) {
            for (int b = 0; b < count; b++) {
                if (over[a][b] && phaseOf(b) >= 0 && phaseOf(a) > phaseOf(b)) {
                    misfits.add(new int[] {a, b});
                }
            }
        }
        for (int k = 0; k < misfits.size() + 2; k++) {
            int at = k;
            Due.is(k < misfits.size() ? misfits.get(k)[0] : -1, () -> house.sheetMisfit(at, 0));
            Due.is(k < misfits.size() ? misfits.get(k)[1] : -1, () -> house.sheetMisfit(at, 1));
        }
        if (!misfits.isEmpty()) {
            Due.is(-2, () -> answer);
            noSheet();
            return 1;
        }
        for (int g = 0; g < count; g++) {
            nodes[g] = house.layerEqual(g) == g && isDrawn(g) ? new Node(g, 0) : null;
        }
        int bends = link();
        if (bends > 150) {
            Due.is(-3, () -> answer);
            noSheet();
            return 2;
        }
        draw(rounds, answer, bends);
        return 0;
    }

    private void noSheet() {
        Due.state(() -> house.sheetAt(0, 0));
        Due.index(() -> house.sheetAt(16, 0));
        Due.index(() -> house.sheetAt(0, 2));
        Due.state(() -> house.sheetLinks());
        Due.state(() -> house.sheetLink(999, 999));
        Due.index(() -> house.sheetLink(-1, 0));
        Due.index(() -> house.sheetLink(0, -1));
        Due.state(() -> house.sheetCommand(9999));
        Due.index(() -> house.sheetCommand(-2));
        Due.state(() -> house.sheetCrossings(99));
        Due.index(() -> house.sheetCrossings(-1));
        Due.is(0, () -> house.sheetCount(3));
        Due.is(0, () -> house.sheetCount(4));
        Due.is(count, () -> house.sheetCount(0));
    }

    private boolean reaches(int a, int b) {
        for (int c = 0; c < count; c++) {
            if (told[a][c] && (c == b || nodes[c] == null && reaches(c, b))) {
                return true;
            }
        }
        return false;
    }

    private int link() {
        List<int[]> pairs = new ArrayList<>();
        for (int a = 0; a < count; a++) {
            for (int b = 0; b < count; b++) {
                if (nodes[a] != null && nodes[b] != null && reaches(a, b)) {
                    pairs.add(new int[] {a, b});
                }
            }
        }
        for (int pass = 0; pass < 20; pass++) {
            for (int[] p : pairs) {
                nodes[p[1]].row = Math.max(nodes[p[1]].row, nodes[p[0]].row + 1);
            }
            for (int a = 0; a < count; a++) {
                for (int b = 0; b < count; b++) {
                    if (nodes[a] != null && nodes[b] != null && phaseOf(a) >= 0 && phaseOf(a) < phaseOf(b)) {
                        nodes[b].row = Math.max(nodes[b].row, nodes[a].row + 1);
                    }
                }
            }
        }
        for (Node n : nodes) {
            if (n != null) {
                put(n);
            }
        }
        int bends = 0;
        for (int[] p : pairs) {
            List<Node> link = new ArrayList<>();
            link.add(nodes[p[0]]);
            for (int r = nodes[p[0]].row + 1; r < nodes[p[1]].row; r++) {
                Node bend = new Node(-1, r);
                put(bend);
                link.add(bend);
                bends++;
            }
            link.add(nodes[p[1]]);
            for (int i = 0; i + 1 < link.size(); i++) {
                link.get(i).down.add(link.get(i + 1));
                link.get(i + 1).up.add(link.get(i));
            }
            links.add(link);
        }
        return bends;
    }

    private void put(Node n) {
        while (rows.size() <= n.row) {
            rows.add(new ArrayList<>());
        }
        rows.get(n.row).add(n);
    }

    private int crossings() {
        int sum = 0;
        for (int r = 0; r + 1 < rows.size(); r++) {
            List<Node> low = rows.get(r + 1);
            for (Node a : rows.get(r)) {
                for (Node b : rows.get(r)) {
                    if (rows.get(r).indexOf(a) < rows.get(r).indexOf(b)) {
                        for (Node x : a.down) {
                            for (Node y : b.down) {
                                sum += low.indexOf(x) > low.indexOf(y) ? 1 : 0;
                            }
                        }
                    }
                }
            }
        }
        return sum;
    }

    private void sort(int r, boolean byUpper) {
        List<Node> row = rows.get(r);
        List<Node> other = rows.get(byUpper ? r - 1 : r + 1);
        for (Node n : row) {
            List<Node> ends = byUpper ? n.up : n.down;
            n.sum = ends.isEmpty() ? row.indexOf(n) : 0;
            n.count = Math.max(1, ends.size());
            for (Node e : ends) {
                n.sum += other.indexOf(e);
            }
        }
        row.sort((a, b) -> Integer.compare(a.sum * b.count, b.sum * a.count));
    }

    private List<List<Node>> copy() {
        List<List<Node>> all = new ArrayList<>();
        for (List<Node> row : rows) {
            all.add(new ArrayList<>(row));
        }
        return all;
    }

    private void draw(int rounds, int answer, int bends) {
        List<List<Node>> best = copy();
        int fewest = crossings();
        int first = fewest;
        Due.is(first, () -> house.sheetCrossings(0));
        for (int k = 1; k <= rounds; k++) {
            for (int r = 1; r < rows.size(); r++) {
                sort(r, true);
            }
            for (int r = rows.size() - 2; r >= 0; r--) {
                sort(r, false);
            }
            int at = k;
            int now = crossings();
            Due.is(now, () -> house.sheetCrossings(at));
            if (now < fewest) {
                fewest = now;
                best = copy();
            }
        }
        Due.index(() -> house.sheetCrossings(rounds + 1));
        rows = best;
        int due = fewest;
        Due.is(due, () -> answer);
        compareSheet(bends);
    }

    private void compareSheet(int bends) {
        List<Integer> commands = new ArrayList<>();
        int drawn = 0;
        for (int c = 0; c < 16; c++) {
            int context = c;
            int g = c < count ? house.layerEqual(c) : c;
            Node n = c < count ? nodes[g] : null;
            Due.is(g, () -> house.sheetGroup(context));
            Due.is(n == null ? -1 : n.row, () -> house.sheetAt(context, 0));
            Due.is(n == null ? -1 : rows.get(n.row).indexOf(n), () -> house.sheetAt(context, 1));
        }
        for (List<Node> row : rows) {
            for (Node n : row) {
                if (n.group >= 0) {
                    commands.addAll(List.of(1, n.group, 16 * row.indexOf(n), 16 * n.row));
                    drawn++;
                }
            }
        }
        Due.is(links.size(), () -> house.sheetLinks());
        for (int k = 0; k < links.size(); k++) {
            int at = k;
            List<Node> link = links.get(k);
            Due.is(link.get(0).group, () -> house.sheetLink(at, 0));
            Due.is(link.get(link.size() - 1).group, () -> house.sheetLink(at, 1));
            Due.is(link.size() - 2, () -> house.sheetLink(at, 2));
            commands.add(2);
            commands.add(link.size());
            for (int i = 0; i < link.size(); i++) {
                Node n = link.get(i);
                int place = rows.get(n.row).indexOf(n);
                commands.add(16 * place);
                commands.add(16 * n.row);
                int what = 2 + i;
                if (i > 0 && i < link.size() - 1) {
                    Due.is(place, () -> house.sheetLink(at, what));
                }
            }
            Due.index(() -> house.sheetLink(at, link.size() + 1));
        }
        Due.index(() -> house.sheetLink(links.size(), 0));
        Due.is(commands.size(), () -> house.sheetCommand(-1));
        for (int i = 0; i < commands.size(); i++) {
            int at = i;
            Due.is(commands.get(i), () -> house.sheetCommand(at));
        }
        Due.index(() -> house.sheetCommand(commands.size()));
        Due.is(rows.size(), () -> house.sheetCount(3));
        Due.is(bends, () -> house.sheetCount(4));
        Due.is(house.layerLinks(), () -> house.sheetCount(1));
        Due.is(house.layerCount(2), () -> house.sheetCount(2));
        Due.compare("true", String.valueOf(drawn <= count));
    }
}
