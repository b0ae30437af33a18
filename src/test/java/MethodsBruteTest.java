import java.util.ArrayList;
import java.util.List;
import java.util.Random;

/** Random methods and objects: reasons held against the clauses one by one, plans against all orders that there are. */
public final class MethodsBruteTest {
    private static final int METHODS = 7;

    private final Random random;
    private final DigHouse house = new DigHouse();
    private final List<List<int[]>> clauses = new ArrayList<>();
    private final List<Integer> parts = new ArrayList<>();
    private final List<int[]> rows = new ArrayList<>();
    private final int[] stock = new int[12];
    private final boolean[][] rights = new boolean[8][12];
    private final boolean[][] trials = new boolean[12][10];
    private List<Integer> plan = new ArrayList<>();

    private MethodsBruteTest(int seed) {
        random = new Random(seed);
    }

    public static void main(String[] args) {
        int[] seen = new int[9];
        for (int seed = 0; seed < 400; seed++) {
            new MethodsBruteTest(seed).run(seen);
        }
        System.out.println("steps by hundreds " + java.util.Arrays.toString(seen));
        for (int i = 0; i < 8; i++) {
            Due.compare("true", String.valueOf(seen[i] > 10));
        }
        Due.end();
    }

    private void run(int[] seen) {
        house.context();
        house.find(0, 0, -1);
        house.object(0, 1, 1, 1, 1);
        for (int i = random.nextInt(4); i > 0; i--) {
            int material = random.nextInt(4);
            house.methodPart(0, material);
            parts.add(material);
        }
        for (int m = 0; m < METHODS; m++) {
            method();
        }
        for (int i = 0; i < 40; i++) {
            change();
            int m = random.nextInt(METHODS);
            int person = random.nextInt(3);
            int second = random.nextInt(3);
            int at = house.present() + random.nextInt(5);
            Due.is(reason(m, person, at), () -> house.methodReason(0, m, person, at));
            treat(m, person, second, seen);
            if (i % 8 == 0) {
                for (int set = 0; set < 1 << METHODS; set += 1 + random.nextInt(5)) {
                    plan(set);
                }
            }
        }
    }

    private void method() {
        List<int[]> all = new ArrayList<>();
        StringBuilder text = new StringBuilder();
        int count = random.nextInt(4);
        for (int i = 0; i < count; i++) {
            int a = random.nextInt(4);
            int b = 1 + random.nextInt(30);
            int m = random.nextInt(random.nextInt(6) == 0 ? 12 : METHODS);
            text.append(text.length() > 0 ? "," : "");
            switch (random.nextInt(8)) {
                case 0: text.append("u").append(a).append("*").append(b); all.add(new int[] {'u', a, b}); break;
                case 1: text.append("b").append(a); all.add(new int[] {'b', a, 0}); break;
                case 2: case 3: text.append("x").append(m); all.add(new int[] {'x', m, 0}); break;
                case 4: case 5: text.append("a").append(m).append(":").append(b % 3); all.add(new int[] {'a', m, b % 3}); break;
                case 6: text.append("t"); all.add(new int[] {'t', 0, 0}); break;
                default: text.append("i"); all.add(new int[] {'i', 0, 0}); break;
            }
        }
        for (char c : text.toString().toCharArray()) {
            house.methodUnit(c);
        }
        Due.is(clauses.size(), () -> house.methodRead());
        clauses.add(all);
    }

    private void change() {
        int good = random.nextInt(4);
        int change = random.nextInt(60) - 10;
        int due = stock[good] + change < 0 ? -1 : stock[good] + change;
        Due.is(due, () -> house.methodStock(good, change));
        stock[good] = due < 0 ? stock[good] : due;
        int person = random.nextInt(3);
        int m = random.nextInt(METHODS);
        boolean on = random.nextInt(4) != 0;
        Due.compare(String.valueOf(rights[person][m] != on), String.valueOf(house.methodRight(person, m, on)));
        rights[person][m] = on;
        int material = random.nextInt(4);
        boolean good2 = random.nextInt(3) != 0;
        Due.compare(String.valueOf(trials[m][material]), String.valueOf(house.methodTrial(m, material, good2)));
        trials[m][material] = good2;
        if (random.nextInt(2) == 0) {
            house.hour(0, 0);
        }
    }

    private boolean isDone(int m) {
        for (int[] row : rows) {
            if (row[0] == m) {
                return true;
            }
        }
        return false;
    }

    private int reason(int m, int person, int hour) {
        List<int[]> all = clauses.get(m);
        for (int p = 0; p < parts.size(); p++) {
            for (int[] c : all) {
                if (c[0] == 'b' && c[1] == parts.get(p)) {
                    return 100 + p;
                }
            }
        }
        for (int other = 0; other < 12; other++) {
            for (int[] c : all) {
                if (c[0] == 'x' && c[1] == other && isDone(other)) {
                    return 200 + other;
                }
            }
        }
        for (int other = 0; other < 12; other++) {
            for (int[] c : all) {
                int latest = -1;
                for (int[] row : rows) {
                    latest = row[0] == other ? row[1] : latest;
                }
                if (c[0] == 'a' && c[1] == other && (latest < 0 || hour - latest < c[2])) {
                    return 300 + other;
                }
            }
        }
        for (int material = 0; material < 10; material++) {
            for (int[] c : all) {
                if (c[0] == 't' && parts.contains(material) && !trials[m][material]) {
                    return 400 + material;
                }
            }
        }
        for (int good = 0; good < 12; good++) {
            if (stock[good] < uses(m, good)) {
                return 500 + good;
            }
        }
        return rights[person][m] ? 0 : 600;
    }

    private int uses(int m, int good) {
        int sum = 0;
        for (int[] c : clauses.get(m)) {
            sum += c[0] == 'u' && c[1] == good ? c[2] : 0;
        }
        int due = sum;
        Due.is(due, () -> house.methodUses(m, good));
        return sum;
    }

    private void treat(int m, int person, int second, int[] seen) {
        boolean two = false;
        for (int[] c : clauses.get(m)) {
            two |= c[0] == 'i';
        }
        int due = reason(m, person, house.present());
        due = due == 0 && two && (person == second || !rights[second][m]) ? 700 : due;
        if (rows.size() == 30) {
            Due.state(() -> house.treat(0, m, person, second));
            return;
        }
        int want = due;
        Due.is(want, () -> house.treat(0, m, person, second));
        seen[due / 100]++;
        if (due == 0) {
            rows.add(new int[] {m, house.present(), person, two ? second : -1});
            for (int good = 0; good < 12; good++) {
                stock[good] -= uses(m, good);
                int g = good;
                Due.is(stock[good], () -> house.methodAbout(g, 0));
                Due.is(0, () -> house.methodAbout(g, 1) - house.methodAbout(g, 2) - stock[g]);
            }
            int k = rows.size() - 1;
            for (int what = 0; what < 4; what++) {
                int w = what;
                Due.is(rows.get(k)[what], () -> house.methodRow(0, k, w));
            }
        }
    }

    private void plan(int set) {
        List<Integer> todo = new ArrayList<>();
        for (int m = 0; m < METHODS; m++) {
            if ((set >> m & 1) != 0) {
                need(m, todo);
            }
        }
        todo.removeIf(m -> isDone(m));
        todo.sort(Integer::compare);
        if (todo.size() > 10) {
            Due.is(-2, () -> house.methodPlan(0, set));
            return;
        }
        List<Integer> best = order(todo, new ArrayList<>());
        Due.is(best == null ? -1 : best.size(), () -> house.methodPlan(0, set));
        plan = best == null ? plan : best;
        Due.is(plan.size(), () -> house.methodCount(4));
        for (int k = 0; k < plan.size(); k++) {
            int at = k;
            Due.is(plan.get(k), () -> house.methodStep(at));
        }
        Due.index(() -> house.methodStep(plan.size()));
    }

    private void need(int m, List<Integer> all) {
        if (!all.contains(m)) {
            all.add(m);
            if (m < METHODS) {
                for (int[] c : clauses.get(m)) {
                    if (c[0] == 'a') {
                        need(c[1], all);
                    }
                }
            }
        }
    }

    /** Goes through all orders, the lower methods first: the first one that may be. */
    private List<Integer> order(List<Integer> todo, List<Integer> done) {
        if (done.size() == todo.size()) {
            return new ArrayList<>(done);
        }
        for (int m : todo) {
            if (!done.contains(m) && mayCome(m, done)) {
                done.add(m);
                List<Integer> whole = order(todo, done);
                if (whole != null) {
                    return whole;
                }
                done.remove(done.size() - 1);
            }
        }
        return null;
    }

    private boolean mayCome(int m, List<Integer> done) {
        if (m >= METHODS) {
            return false;
        }
        for (int[] c : clauses.get(m)) {
            boolean past = done.contains(c[1]) || isDone(c[1]);
            if (c[0] == 'b' && parts.contains(c[1]) || c[0] == 'a' && !past || c[0] == 'x' && past) {
                return false;
            }
        }
        return true;
    }
}
