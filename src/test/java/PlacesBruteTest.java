import java.util.ArrayList;
import java.util.List;
import java.util.Random;

/** Random moves, packings, plans and quiet times, held against positions and weights hour by hour. */
public final class PlacesBruteTest {
    private static final int PLACES = 6;
    private static final int OBJECTS = 5;

    private final Random random;
    private final DigHouse house = new DigHouse();
    private final int[] outer = new int[PLACES];
    private final int[] loads = new int[PLACES];
    private final int[][] sizes = new int[OBJECTS][];
    private final int[] grams = new int[OBJECTS];
    private final int[] keys = new int[OBJECTS];
    private final boolean[] boxes = new boolean[OBJECTS];
    private final boolean[] holders = new boolean[10];
    private final List<List<int[]>> rows = new ArrayList<>();
    private final List<int[]> plans = new ArrayList<>();
    private final List<int[]> quiets = new ArrayList<>();
    private final List<int[]> doors = new ArrayList<>();
    private int present;
    private int clock;

    private PlacesBruteTest(int seed) {
        random = new Random(seed);
    }

    public static void main(String[] args) {
        int[] seen = new int[8];
        for (int seed = 0; seed < 120; seed++) {
            new PlacesBruteTest(seed).run(seen);
        }
        System.out.println("answers to moves " + java.util.Arrays.toString(seen));
        for (int i = 0; i < 6; i++) {
            Due.compare("true", String.valueOf(seen[i] > 4));
        }
        Due.end();
    }

    private void run(int[] seen) {
        house.context();
        for (int p = 0; p < PLACES; p++) {
            outer[p] = p == 0 || random.nextInt(4) == 0 ? -1 : random.nextInt(p);
            loads[p] = 5 + random.nextInt(20);
            house.place(outer[p], loads[p]);
        }
        for (int o = 0; o < OBJECTS; o++) {
            sizes[o] = new int[] {1 + random.nextInt(6), 1 + random.nextInt(6), 1 + random.nextInt(6)};
            grams[o] = 1 + random.nextInt(8);
            house.find(0, 0, -1);
            house.object(o, sizes[o][0], sizes[o][1], sizes[o][2], grams[o]);
            java.util.Arrays.sort(sizes[o]);
            rows.add(new ArrayList<>());
            boxes[o] = random.nextInt(3) != 0;
            if (boxes[o]) {
                house.placeBox(o);
            }
        }
        for (int i = 0; i < 90; i++) {
            step(seen);
        }
        for (int o = 0; o < OBJECTS; o++) {
            compare(o);
        }
        for (int p = 0; p < PLACES; p++) {
            for (int h = -1; h < clock + 60; h++) {
                int place = p;
                int hour = h;
                Due.is(weight(p, h), () -> house.placeUsed(place, hour));
            }
        }
        Due.is(present, () -> house.placeCount(4));
    }

    private void step(int[] seen) {
        int o = random.nextInt(OBJECTS);
        int p = random.nextInt(PLACES);
        switch (random.nextInt(9)) {
            case 0: case 1: case 2: carry(o, p, seen); break;
            case 3: case 4: pack(o, random.nextInt(OBJECTS), seen); break;
            case 5: if (random.nextInt(4) == 0) lose(o); break;
            case 6: plan(o, p); break;
            case 7:
                if (random.nextInt(3) == 0 && quiets.size() < 20) {
                    int from = clock + random.nextInt(30);
                    int[] q = {p, from, from + random.nextInt(20)};
                    house.placeQuiet(q[0], q[1], q[2]);
                    quiets.add(q);
                } else {
                    keys[o] = random.nextInt(6) == 0 ? random.nextInt(3) : 0;
                    house.placeKeys(o, keys[o]);
                    int person = random.nextInt(4);
                    holders[person] = random.nextBoolean();
                    house.placeKey(person, holders[person]);
                }
                break;
            default:
                if (random.nextInt(4) == 0 && clock < 200) {
                    clock = house.pass(1);
                } else if (house.had(3) < 60) {
                    house.hour(0, 0);
                    clock++;
                }
                break;
        }
    }

    private int where(int o, int hour) {
        int[] last = null;
        for (int[] row : rows.get(o)) {
            last = row[0] <= hour ? row : last;
        }
        if (last == null || last[1] == 2) {
            return -1;
        }
        return last[1] == 0 ? last[2] : where(last[2], hour);
    }

    private boolean lies(int place, int in) {
        return place >= 0 && (place == in || lies(outer[place], in));
    }

    private int weight(int place, int hour) {
        int sum = 0;
        for (int o = 0; o < OBJECTS; o++) {
            boolean counts = lies(where(o, hour), place);
            for (int[] plan : plans) {
                counts |= plan[0] == o && plan[2] <= hour && hour <= plan[3] && lies(plan[1], place);
            }
            sum += counts ? grams[o] : 0;
        }
        return sum;
    }

    private boolean bears(int place, int from, int to) {
        for (int h = from; h <= to; h++) {
            for (int p = place; p >= 0; p = outer[p]) {
                if (weight(p, h) > loads[p]) {
                    return false;
                }
            }
        }
        return true;
    }

    private boolean barred(int from, int to) {
        for (int[] q : quiets) {
            if (q[1] <= clock && clock <= q[2] && lies(from, q[0]) != lies(to, q[0])) {
                return true;
            }
        }
        return false;
    }

    private void carry(int o, int p, int[] seen) {
        int a = random.nextInt(4);
        int b = random.nextInt(4);
        boolean opens = keys[o] == 0 || holders[a] && (keys[o] == 1 || a != b && holders[b]);
        if (rows.get(o).size() == 40 || !opens) {
            Due.state(() -> house.carry(o, p, a, b));
            return;
        }
        int due = 0;
        if (barred(where(o, clock), p)) {
            due = 1;
        } else {
            rows.get(o).add(new int[] {clock, 0, p});
            if (!bears(p, clock, clock + 100)) {
                due = 2;
                rows.get(o).remove(rows.get(o).size() - 1);
            }
        }
        int want = due;
        Due.is(want, () -> house.carry(o, p, a, b));
        present = due == 0 ? clock : present;
        seen[due]++;
    }

    private boolean within(int o, int thing) {
        if (o == thing) {
            return true;
        }
        List<int[]> all = rows.get(thing);
        int[] last = all.isEmpty() ? null : all.get(all.size() - 1);
        return last != null && last[1] == 1 && within(o, last[2]);
    }

    private void pack(int o, int box, int[] seen) {
        if (rows.get(o).size() == 40) {
            Due.state(() -> house.pack(o, box));
            return;
        }
        int due = 0;
        boolean smaller = sizes[o][0] < sizes[box][0] && sizes[o][1] < sizes[box][1] && sizes[o][2] < sizes[box][2];
        int place = where(box, clock);
        if (!boxes[box] || within(o, box)) {
            due = 1;
        } else if (!smaller) {
            due = 2;
        } else if (keys[o] > 0) {
            due = 3;
        } else if (barred(where(o, clock), place)) {
            due = 4;
        } else {
            rows.get(o).add(new int[] {clock, 1, box});
            if (place >= 0 && !bears(place, clock, clock + 100)) {
                due = 5;
                rows.get(o).remove(rows.get(o).size() - 1);
            }
        }
        int want = due;
        Due.is(want, () -> house.pack(o, box));
        present = due == 0 ? clock : present;
        seen[due]++;
    }

    private void lose(int o) {
        List<int[]> all = rows.get(o);
        if (all.size() == 40) {
            Due.state(() -> house.lose(o));
            return;
        }
        boolean due = !all.isEmpty() && all.get(all.size() - 1)[1] == 0;
        Due.compare(String.valueOf(due), String.valueOf(house.lose(o)));
        if (due) {
            all.add(new int[] {clock, 2, -1});
            present = clock;
        }
    }

    private void plan(int o, int p) {
        int from = clock + random.nextInt(30) - 10;
        int to = from + random.nextInt(25);
        if (from < present) {
            Due.argument(() -> house.placePlanned(o, p, from, to));
            return;
        }
        if (plans.size() == 30) {
            Due.state(() -> house.placePlanned(o, p, from, to));
            return;
        }
        plans.add(new int[] {o, p, from, to});
        boolean good = bears(p, from, to);
        if (!good) {
            plans.remove(plans.size() - 1);
        }
        Due.is(good ? 0 : 1, () -> house.placePlanned(o, p, from, to));
    }

    private void compare(int o) {
        int last = -1;
        for (int h = -1; h <= clock + 3; h++) {
            int hour = h;
            int where = where(o, h);
            Due.is(where, () -> house.placeWhere(o, hour));
            last = where >= 0 && h <= present ? where : last;
        }
        int due = last;
        Due.is(due, () -> house.placeLast(o));
        Due.is(where(o, present), () -> house.placeWhere(o, 1000000));
        List<int[]> all = rows.get(o);
        for (int k = 0; k < all.size(); k++) {
            int at = k;
            for (int what = 0; what < 3; what++) {
                int w = what;
                Due.is(all.get(k)[what], () -> house.placeHistory(o, at, w));
            }
        }
        Due.element(() -> house.placeHistory(o, all.size(), 0));
        for (int i = 0; i < 6 && doors.size() < 40; i++) {
            int[] door = {random.nextInt(PLACES), random.nextInt(PLACES), 1 + random.nextInt(7), 1 + random.nextInt(7)};
            if (door[0] == door[1]) {
                Due.argument(() -> house.placeDoor(door[0], door[1], door[2], door[3]));
            } else {
                Due.is(doors.size(), () -> house.placeDoor(door[0], door[1], door[2], door[3]));
                doors.add(door);
            }
        }
        for (int d = 0; d < doors.size(); d++) {
            int door = d;
            Due.compare(String.valueOf(passes(o, doors.get(d))), String.valueOf(house.placePasses(o, door)));
        }
        for (int p = 0; p < PLACES; p++) {
            int to = p;
            Due.is(way(o, where(o, present), p, 0), () -> house.placeWay(o, to));
        }
    }

    /** Whether one of the three faces goes through, by the formula of the document. */
    private static boolean passes(int[] s, int w, int h) {
        int[][] faces = {{s[1], s[0]}, {s[2], s[0]}, {s[2], s[1]}};
        for (int[] f : faces) {
            long p = f[0];
            long q = f[1];
            long a = Math.max(w, h);
            long b = Math.min(w, h);
            boolean turned = (a + b) * (a + b) * (p - q) * (p - q) + (a - b) * (a - b) * (p + q) * (p + q)
                    >= 2 * (p * p - q * q) * (p * p - q * q);
            if (p <= a && q <= b || q <= b && turned) {
                return true;
            }
        }
        return false;
    }

    private boolean passes(int o, int[] door) {
        return passes(sizes[o], door[2], door[3]);
    }

    private int way(int o, int from, int to, int depth) {
        if (from < 0) {
            return -1;
        }
        if (from == to) {
            return depth;
        }
        int best = -1;
        for (int[] door : doors) {
            int next = door[0] == from ? door[1] : door[1] == from ? door[0] : -1;
            if (next >= 0 && depth < PLACES && passes(o, door)) {
                int one = way(o, next, to, depth + 1);
                best = one >= 0 && (best < 0 || one < best) ? one : best;
            }
        }
        return best;
    }
}
