import java.util.ArrayList;
import java.util.List;
import java.util.Random;

/** Random rooms run by random hours, held against a room that is run here; visitors, light and warmth of objects, too. */
public final class RoomsBruteTest {
    private static final class Model {
        long volume = 100;
        long share = 100;
        long heat = 2000000;
        long water = 1000000;
        List<long[]> walls = new ArrayList<>();
        long kilograms;
        long held;
        List<long[]> goods = new ArrayList<>();
        long[][] machines = new long[4][];
        boolean[] on = new boolean[4];
        long[][] books = new long[5][2];
        List<List<int[]>> risks = new ArrayList<>();
        int[] points = new int[4];
        List<int[]> rules = new ArrayList<>();
        List<List<Integer>> alarms = new ArrayList<>();
        int hours;
        Integer[] sensor = new Integer[100];
        Integer[] right = new Integer[100];
        int lamp;

        Model() {
            for (int i = 0; i < 4; i++) {
                risks.add(new ArrayList<>());
            }
        }

        static long by(long a, long b) {
            long q = a / b;
            return a % b != 0 && (a < 0) != (b < 0) ? q - 1 : q;
        }

        long degrees() {
            return by(heat, volume);
        }

        long damp() {
            return by(water, volume);
        }

        void add(int book, long h, long w) {
            heat += h;
            water += w;
            books[book][0] += h;
            books[book][1] += w;
        }

        void climate(int d, int w, int n) {
            add(0, by(share * (d - degrees()) * volume, 1000), by(share * (w - damp()) * volume, 1000));
            for (int k = 0; k < walls.size(); k++) {
                long[] layer = walls.get(k);
                long inner = k == 0 ? degrees() : by(walls.get(k - 1)[2], walls.get(k - 1)[1]);
                long flow = by(layer[0] * (inner - by(layer[2], layer[1])), 100);
                layer[2] += flow;
                if (k == 0) {
                    add(1, -flow, 0);
                } else {
                    walls.get(k - 1)[2] -= flow;
                }
            }
            if (!walls.isEmpty()) {
                long[] last = walls.get(walls.size() - 1);
                last[2] += by(last[0] * (d - by(last[2], last[1])), 100);
            }
            long then = 0;
            for (int k = goods.size() - 1; k >= 0; k--) {
                if (k == goods.size() - 1 || goods.get(k)[0] >= damp()) {
                    then = kilograms * goods.get(k)[1];
                }
            }
            long taken = Math.min(by(then - held, 4), water);
            held += taken;
            add(2, 0, -taken);
            add(3, 100L * n, 50L * n);
            for (int kind = 0; kind < 4; kind++) {
                long[] m = machines[kind];
                if (m == null) {
                    continue;
                }
                long now = kind < 2 ? degrees() : damp();
                boolean up = kind == 0 || kind == 2;
                on[kind] = now < m[0] ? up : now > m[1] ? !up : on[kind];
                if (on[kind]) {
                    long much = kind == 3 ? Math.min(m[2], water) : m[2];
                    add(4, kind < 2 ? up ? much : -much : 0, kind < 2 ? 0 : up ? much : -much);
                }
            }
        }

        void run(int d, int w, int n) {
            climate(d, w, n);
            for (int kind = 0; kind < 4; kind++) {
                int more = 0;
                for (int[] row : risks.get(kind)) {
                    more = row[0] <= (kind < 2 ? damp() : degrees()) ? row[1] : more;
                }
                points[kind] += more;
            }
            for (int r = 0; r < rules.size(); r++) {
                int[] rule = rules.get(r);
                long now = rule[0] < 2 ? degrees() : damp();
                boolean so = rule[0] % 2 == 0 ? now > rule[1] : now < rule[1];
                List<Integer> all = alarms.get(r);
                if (so && (all.isEmpty() || hours - all.get(all.size() - 1) >= rule[2])) {
                    all.add(hours);
                }
            }
            hours++;
        }

        Model copy() {
            Model m = new Model();
            m.volume = volume;
            m.share = share;
            m.heat = heat;
            m.water = water;
            for (long[] w : walls) {
                m.walls.add(w.clone());
            }
            m.kilograms = kilograms;
            m.held = held;
            m.goods = goods;
            m.machines = machines.clone();
            m.on = on.clone();
            return m;
        }

        int plan(int count, int d, int w) {
            int best = 0;
            long least = Long.MAX_VALUE;
            for (int level = 18000; level <= 22000; level += 500) {
                Model m = copy();
                long rate = machines[0] == null ? 5000 : machines[0][2];
                m.machines[0] = new long[] {level, level + 500, rate};
                m.on[0] = false;
                long cost = 0;
                for (int h = 0; h < count; h++) {
                    long before = m.books[4][0];
                    long[] cooler = m.machines[1];
                    m.climate(d, w, 0);
                    long cooled = m.on[1] && cooler != null ? cooler[2] : 0;
                    cost += m.books[4][0] - before + cooled;
                    cost += m.degrees() < 18000 ? 100 * (18000 - m.degrees()) : 0;
                    cost += m.degrees() > 22000 ? 100 * (m.degrees() - 22000) : 0;
                }
                if (cost < least) {
                    least = cost;
                    best = level;
                }
            }
            return best;
        }
    }

    private final Random random;
    private final DigHouse house = new DigHouse();
    private final List<Model> rooms = new ArrayList<>();
    private final int[] light = new int[4];
    private final long[] warm = {-1000000, -1000000, -1000000, -1000000};
    private final int[] in = {-1, -1, -1, -1};
    private int guests;

    private RoomsBruteTest(int seed) {
        random = new Random(seed);
    }

    public static void main(String[] args) {
        for (int seed = 0; seed < 200; seed++) {
            new RoomsBruteTest(seed).run();
        }
        Due.end();
    }

    private void run() {
        house.context();
        for (int p = 0; p < 4; p++) {
            house.place(-1, 1000000);
            house.find(0, 0, -1);
            house.object(p, 1, 1, 1, 1);
        }
        house.ticketSlot(20);
        while (guests < 20 && random.nextInt(4) != 0) {
            int n = 1 + random.nextInt(5);
            int ticket = house.ticketSell(0, n, 0);
            if (ticket >= 0) {
                guests += n;
                house.ticketRead(0, ticket, 0);
            }
        }
        house.ticketJoin();
        boolean left = false;
        for (int i = 0; i < 120; i++) {
            if (!rooms.isEmpty()) {
                change(random.nextInt(rooms.size()));
            }
            if (rooms.size() < 4 && random.nextInt(10) == 0) {
                Due.is(rooms.size(), () -> house.room(rooms.size()));
                rooms.add(new Model());
            }
            if (random.nextInt(3) == 0) {
                int o = random.nextInt(4);
                int to = random.nextInt(4);
                if (house.placeCount(5) < 150) {
                    try {
                        Due.compare("0", String.valueOf(house.carry(o, to, 0, 0)));
                        in[o] = to;
                    } catch (IllegalStateException e) {
                        Due.compare("true", String.valueOf(i > 30));
                    }
                }
            }
            if (random.nextInt(2) == 0 && house.had(3) < 60) {
                hour();
            }
        }
        for (int r = 0; r < rooms.size(); r++) {
            compare(r);
        }
    }

    private void hour() {
        int d = random.nextInt(60000) - 30000;
        int w = random.nextInt(30000);
        house.hour(d, w);
        for (int r = 0; r < rooms.size(); r++) {
            int share = guests / rooms.size() + (r < guests % rooms.size() ? 1 : 0);
            rooms.get(r).run(d, w, Math.min(99, share));
        }
        for (int o = 0; o < 4; o++) {
            int object = o;
            if (in[o] >= 0 && in[o] < rooms.size()) {
                Model m = rooms.get(in[o]);
                light[o] += m.lamp;
                warm[o] = Math.max(warm[o], m.degrees());
            }
            Due.is(light[o], () -> house.light(object));
            Due.is(warm[o], () -> house.warm(object));
            Due.is(in[o] < rooms.size() ? in[o] : -1, () -> house.inRoom(object));
        }
    }

    private void change(int r) {
        Model m = rooms.get(r);
        int a = random.nextInt(1000);
        switch (random.nextInt(11)) {
            case 0:
                m.volume = 1 + random.nextInt(random.nextBoolean() ? 1000 : 9);
                m.share = random.nextInt(1001);
                house.roomSize(r, (int) m.volume, (int) m.share);
                break;
            case 1:
                if (m.walls.size() < 5) {
                    long[] layer = {random.nextInt(101), 1 + random.nextInt(1000), 0};
                    layer[2] = layer[1] * 20000;
                    Due.is(m.walls.size(), () -> house.roomWall(r, (int) layer[0], (int) layer[1]));
                    m.walls.add(layer);
                }
                break;
            case 2:
                Due.is(m.kilograms, () -> house.roomGoods(r, a));
                m.kilograms = a;
                break;
            case 3:
                long damp = (m.goods.isEmpty() ? 0 : m.goods.get(m.goods.size() - 1)[0]) + random.nextInt(6000);
                boolean rises = m.goods.isEmpty() || damp > m.goods.get(m.goods.size() - 1)[0];
                if (m.goods.size() == 6) {
                    Due.state(() -> house.roomRow(r, (int) damp, a));
                } else if (!rises || damp > 60000) {
                    Due.argument(() -> house.roomRow(r, (int) damp, a));
                } else {
                    Due.is(m.goods.size(), () -> house.roomRow(r, (int) damp, a));
                    m.goods.add(new long[] {damp, a});
                }
                break;
            case 4: case 5:
                int kind = random.nextInt(4);
                int low = random.nextInt(30000) - (kind < 2 ? 5000 : 0);
                m.machines[kind] = new long[] {low, low + random.nextInt(4000), random.nextInt(random.nextBoolean() ? 100001 : 5000)};
                m.on[kind] = false;
                house.roomMachine(r, kind, low, (int) m.machines[kind][1], (int) m.machines[kind][2]);
                break;
            case 6:
                int risk = random.nextInt(4);
                List<int[]> rows = m.risks.get(risk);
                int level = (rows.isEmpty() ? -3000 : rows.get(rows.size() - 1)[0]) + 1 + random.nextInt(9000);
                if (rows.size() < 5 && level <= 60000) {
                    Due.is(rows.size(), () -> house.roomRisk(r, risk, level, a));
                    rows.add(new int[] {level, a});
                }
                break;
            case 7:
                if (m.rules.size() < 4) {
                    int[] rule = {random.nextInt(4), random.nextInt(25000), 1 + random.nextInt(6)};
                    Due.is(m.rules.size(), () -> house.roomRule(r, rule[0], rule[1], rule[2]));
                    m.rules.add(rule);
                    m.alarms.add(new ArrayList<>());
                }
                break;
            case 8:
                Due.is(m.lamp, () -> house.lamp(r, a));
                m.lamp = a;
                break;
            case 9: sense(r, m, random.nextInt(Math.max(1, m.hours + 1))); break;
            default:
                int count = 1 + random.nextInt(24);
                int d = random.nextInt(50000) - 20000;
                int w = random.nextInt(60001);
                Due.is(m.plan(count, d, w), () -> house.roomPlan(r, count, d, w));
                break;
        }
    }

    private void sense(int r, Model m, int hour) {
        int v = random.nextInt(2000) - 1000;
        if (hour >= m.hours) {
            Due.index(() -> house.roomSensor(r, hour, v));
            Due.index(() -> house.roomCheck(r, hour, v));
            return;
        }
        if (random.nextInt(3) != 0) {
            house.roomSensor(r, hour, v);
            m.sensor[hour] = v;
        } else if (m.sensor[hour] == null) {
            Due.state(() -> house.roomCheck(r, hour, v));
        } else {
            house.roomCheck(r, hour, v);
            m.right[hour] = v;
        }
    }

    private void compare(int r) {
        Model m = rooms.get(r);
        Due.is(m.degrees(), () -> house.roomDegrees(r));
        Due.is(m.damp(), () -> house.roomDamp(r));
        Due.is(m.held, () -> house.roomHeld(r));
        Due.is(m.heat, () -> house.roomBook(r, -1, 0));
        Due.is(m.water, () -> house.roomBook(r, -1, 1));
        for (int i = 0; i < 10; i++) {
            int kind = i / 2;
            int what = i % 2;
            Due.is(m.books[kind][what], () -> house.roomBook(r, kind, what));
        }
        for (int i = 0; i < 4; i++) {
            int kind = i;
            Due.compare(String.valueOf(m.on[i]), String.valueOf(house.roomOn(r, i)));
            Due.is(m.points[i], () -> house.roomPoints(r, kind));
        }
        for (int k = 0; k < m.walls.size(); k++) {
            int at = k;
            long degrees = Model.by(m.walls.get(k)[2], m.walls.get(k)[1]);
            Due.is(degrees, () -> house.roomLayer(r, at));
            Due.compare(String.valueOf(m.damp() > Math.max(0, degrees)), String.valueOf(house.roomDew(r, k)));
        }
        for (int rule = 0; rule < m.rules.size(); rule++) {
            int at = rule;
            List<Integer> all = m.alarms.get(rule);
            Due.is(all.size(), () -> house.roomAlarm(r, at, -1));
            for (int k = 0; k <= all.size(); k++) {
                int number = k;
                Due.is(k < all.size() ? all.get(k) : -1, () -> house.roomAlarm(r, at, number));
            }
        }
        corrected(r, m);
        Due.compare(m.hours + " " + m.walls.size() + " " + m.goods.size() + " " + m.rules.size(), house.roomCount(r, 0) + " "
                + house.roomCount(r, 1) + " " + house.roomCount(r, 2) + " " + house.roomCount(r, 3));
    }

    private void corrected(int r, Model m) {
        int checks = 0;
        for (int h = 0; h < m.hours; h++) {
            int hour = h;
            checks += m.right[h] != null ? 1 : 0;
            int before = h;
            int behind = h;
            while (before >= 0 && m.right[before] == null) {
                before--;
            }
            while (behind < m.hours && m.right[behind] == null) {
                behind++;
            }
            long drift = 0;
            if (before >= 0 && behind < m.hours) {
                long b = m.right[before] - m.sensor[before];
                long c = m.right[behind] - m.sensor[behind];
                drift = before == behind ? b : b + Model.by((c - b) * (h - before), behind - before);
            } else if (before >= 0 || behind < m.hours) {
                int only = before >= 0 ? before : behind;
                drift = m.right[only] - m.sensor[only];
            }
            long due = m.sensor[h] == null ? -200000 : m.sensor[h] + drift;
            Due.is(due, () -> house.roomCorrected(r, hour));
            int best = -1;
            int longest = 0;
            for (int first = h; first < m.hours; first++) {
                int length = 0;
                while (first + length < m.hours && m.sensor[first + length] == null) {
                    length++;
                }
                if (length > longest) {
                    longest = length;
                    best = first;
                }
            }
            int silent = best;
            Due.is(silent, () -> house.roomSilent(r, hour));
        }
        int all = checks;
        Due.is(all, () -> house.roomCount(r, 4));
    }
}
