import java.util.ArrayList;
import java.util.Arrays;
import java.util.List;
import java.util.Random;

/**
 * Random days of a museum: what goes between the parts (moves, hours, loans, treatments, looks), held against what
 * the parts themselves answer and what is kept here.
 */
public final class JoinedBruteTest {
    private static final int OBJECTS = 5;
    private static final int PLACES = 9;
    private static final String[] CONTRACTS = {"a<80000", "a>79999;b<10500", "c>80100;y<3", "d>9999;z=1;h=0", "b>9000|a<1;!c<79000", "y>0"};
    private static final String[] METHODS = {"", "u0*2", "b3,t", "i", "a0:2,i,u1*1", "x0"};
    private static final String[] RULES = {"s", "m f1", "m f3", "a f5 p2", "s !r7 f4", "m k2 f2", "a c3 f0 !g"};

    private final Random random;
    private final DigHouse house = new DigHouse();
    private final int[] outer = new int[PLACES];
    private final List<Integer> roomPlaces = new ArrayList<>();
    private final int[] lamps = new int[4];
    private final int[] finds = new int[OBJECTS];
    private final int[] spares = new int[OBJECTS];
    private final int[] lights = new int[OBJECTS];
    private final int[] warmest = new int[OBJECTS];
    private final boolean[] wereInRoom = new boolean[OBJECTS];
    private final int[] origins = new int[OBJECTS];
    private final boolean[] boxes = new boolean[OBJECTS];
    private final List<int[]> quiets = new ArrayList<>();
    /** Object, contract, from, to, what was answered latest; which terms are told still, and how many were told. */
    private final List<int[]> loans = new ArrayList<>();
    private final List<boolean[]> still = new ArrayList<>();
    private final List<List<int[]>> told = new ArrayList<>();
    private final int[][] inputs = new int[8][];
    private final int[][] fails = new int[8][];
    private int workshop = -1;
    private int now;
    private int looks;
    private int claims;

    private JoinedBruteTest(int seed) {
        random = new Random(seed);
    }

    public static void main(String[] args) {
        int[] moves = new int[7];
        int[] steps = new int[9];
        int[] answers = new int[3];
        for (int seed = 0; seed < 800; seed++) {
            new JoinedBruteTest(seed).run(moves, steps, answers);
        }
        System.out.println("moves " + Arrays.toString(moves) + ", steps by hundreds " + Arrays.toString(steps) + ", looks " + Arrays.toString(answers));
        for (int i : new int[] {0, 1, 3, 4, 5, 6}) {
            Due.compare("true", String.valueOf(moves[i] > 10));
        }
        for (int i = 0; i < 9; i++) {
            Due.compare("true", String.valueOf(steps[i] > 10));
        }
        for (int i = 0; i < 3; i++) {
            Due.compare("true", String.valueOf(answers[i] > 10));
        }
        Due.end();
    }

    private void run(int[] moves, int[] steps, int[] answers) {
        begin();
        for (int i = 0; i < 220; i++) {
            int o = random.nextInt(OBJECTS);
            switch (random.nextInt(14)) {
                case 0: case 1: case 2: carry(o, random.nextInt(PLACES), moves); break;
                case 3: pack(o, random.nextInt(OBJECTS), moves); break;
                case 4: lose(o); break;
                case 5: case 6: case 7: hour(); break;
                case 8: lend(o); break;
                case 9: treat(o, steps); break;
                case 10: look(o, answers); break;
                case 11: origin(o); break;
                case 12: tellMuseum(o); break;
                default: tellPapers(o); break;
            }
            compare(o);
        }
        compareTold();
    }

    private void begin() {
        for (int c = 0; c < 4; c++) {
            house.context();
            house.curveRow(c, 400 - c, 10);
            house.curveDate(398, 10);
            house.rightPerson(c == 0 ? 255 : c);
            house.claimSource(c, c);
            house.claimNew();
            house.claimRests(c, c, true);
            house.methodStock(c, 4);
        }
        for (int p = 0; p < PLACES; p++) {
            outer[p] = p < 2 ? -1 : random.nextInt(p);
            house.place(outer[p], 1000000);
        }
        for (int o = 0; o < OBJECTS; o++) {
            finds[o] = random.nextInt(4);
            house.find(finds[o], random.nextInt(4), random.nextInt(4));
            house.object(o, 10 + o, 20 + o, 30 + o, 100);
            house.methodPart(o, random.nextInt(5));
            spares[o] = -1;
            warmest[o] = -1000000;
            origins[o] = -1;
        }
        for (String text : CONTRACTS) {
            Houses.contract(house, text);
        }
        for (String text : METHODS) {
            int method = Houses.method(house, text);
            house.methodRight(method % 4, method, true);
            house.methodRight(0, method, true);
        }
        for (String text : RULES) {
            Houses.rule(house, text);
        }
        for (int slot = 0; slot < 6; slot++) {
            house.ticketSlot(20);
            house.ticketSell(slot, 3 + slot, 0);
            house.ticketSell(slot, 9, 0);
        }
        house.dated(1, 1);
        house.dated(2, 2);
        house.solve();
        Arrays.setAll(inputs, i -> new int[0]);
    }

    private boolean lies(int place, int in) {
        return place >= 0 && (place == in || lies(outer[place], in));
    }

    private int roomOf(int place) {
        return place < 0 ? -1 : roomPlaces.contains(place) ? roomPlaces.indexOf(place) : roomOf(outer[place]);
    }

    private int day() {
        return now / 24;
    }

    private boolean isQuiet(int from, int to) {
        for (int[] q : quiets) {
            if (q[1] <= now && now <= q[2] && lies(from, q[0]) != lies(to, q[0])) {
                return true;
            }
        }
        return false;
    }

    private boolean isLent(int object, int least) {
        for (int[] loan : loans) {
            if (loan[0] == object && loan[4] >= least) {
                return true;
            }
        }
        return false;
    }

    private boolean isFull(int object) {
        try {
            return house.placeHistory(object, 39, 0) >= 0;
        } catch (java.util.NoSuchElementException e) {
            return false;
        }
    }

    private void carry(int o, int place, int[] moves) {
        int r = roomOf(place);
        int due = 0;
        if (house.ownerStops(o, day())) {
            due = 3;
        } else if (isLent(o, 1)) {
            due = 4;
        } else if (r >= 0 && lamps[r] > 0 && spares[o] >= 0 && lights[o] >= spares[o]) {
            due = 5;
        } else if (isFull(o)) {
            Due.state(() -> house.carry(o, place, 0, 0));
            return;
        } else if (isQuiet(house.placeWhere(o, now), place)) {
            due = 1;
        }
        int rows = house.placeCount(5);
        int present = house.placeCount(4);
        Due.is(due, () -> house.carry(o, place, 0, 0));
        Due.is(rows + (due == 0 ? 1 : 0), () -> house.placeCount(5));
        Due.is(due == 0 ? now : present, () -> house.placeCount(4));
        if (due == 0) {
            Due.is(place, () -> house.placeWhere(o, now));
        }
        moves[due]++;
    }

    private boolean isIn(int thing, int box) {
        for (int here = thing, step = 0; step <= OBJECTS; step++) {
            if (here == box) {
                return true;
            }
            int rows = 0;
            for (; rows < 40 && hasRow(here, rows); rows++) {
            }
            if (rows == 0 || house.placeHistory(here, rows - 1, 1) != 1) {
                return false;
            }
            here = house.placeHistory(here, rows - 1, 2);
        }
        return false;
    }

    private boolean hasRow(int object, int k) {
        try {
            return house.placeHistory(object, k, 0) >= 0;
        } catch (java.util.NoSuchElementException e) {
            return false;
        }
    }

    private void pack(int o, int box, int[] moves) {
        boolean isStopped = house.ownerStops(o, day());
        if (!isStopped && isFull(o)) {
            Due.state(() -> house.pack(o, box));
            return;
        }
        int due = 0;
        if (isStopped) {
            due = 6;
        } else if (!boxes[box] || isIn(box, o)) {
            due = 1;
        } else if (o >= box) {
            due = 2;
        } else if (isQuiet(house.placeWhere(o, now), house.placeWhere(box, now))) {
            due = 4;
        }
        int place = due == 0 ? house.placeWhere(box, now) : house.placeWhere(o, now);
        Due.is(due, () -> house.pack(o, box));
        Due.is(place, () -> house.placeWhere(o, now));
        moves[6] += due == 6 ? 1 : 0;
    }

    private void lose(int o) {
        if (random.nextInt(3) != 0) {
            return;
        }
        if (isFull(o)) {
            Due.state(() -> house.lose(o));
            return;
        }
        int rows = 0;
        for (; hasRow(o, rows); rows++) {
        }
        boolean isPlace = rows > 0 && house.placeHistory(o, rows - 1, 1) == 0;
        Due.is(isPlace ? 1 : 0, () -> house.lose(o) ? 1 : 0);
        if (isPlace) {
            Due.is(-1, () -> house.placeWhere(o, now));
            Due.is(now, () -> house.placeCount(4));
        }
    }

    private void hour() {
        if (house.had(3) == 60) {
            Due.state(() -> house.hour(0, 0));
            return;
        }
        int guests = house.ticketInside(3600 * (now % 24));
        long[] before = new long[roomPlaces.size()];
        for (int r = 0; r < before.length; r++) {
            before[r] = house.roomBook(r, 3, 0);
        }
        int[] stood = new int[OBJECTS];
        for (int o = 0; o < OBJECTS; o++) {
            stood[o] = roomOf(house.placeWhere(o, now));
        }
        int run = now;
        int answer = house.hour(random.nextInt(60001) - 20000, random.nextInt(20001));
        now++;
        for (int r = 0; r < before.length; r++) {
            int room = r;
            int visitors = guests / before.length + (r < guests % before.length ? 1 : 0);
            Due.is(before[r] + 100 * visitors, () -> house.roomBook(room, 3, 0));
            feed(2 * r, house.roomDegrees(r) + 60000);
            feed(2 * r + 1, house.roomDamp(r));
        }
        for (int o = 0; o < OBJECTS; o++) {
            if (stood[o] >= 0) {
                lights[o] += lamps[stood[o]];
                int degrees = house.roomDegrees(stood[o]);
                warmest[o] = wereInRoom[o] ? Math.max(warmest[o], degrees) : degrees;
                wereInRoom[o] = true;
            }
        }
        int broken = 0;
        for (int l = 0; l < loans.size(); l++) {
            broken += ask(l, run) ? 1 : 0;
        }
        Due.is(broken, () -> answer);
    }

    private void feed(int input, int v) {
        inputs[input] = new int[] {Math.max(0, Math.min(999999, v))};
    }

    /** Asks a loan at the hour that was run just now: each name has the value that was fed just now. */
    private boolean ask(int l, int hour) {
        int[] loan = loans.get(l);
        loan[4] = -1;
        if (hour / 24 < loan[2] || hour / 24 > loan[3]) {
            return false;
        }
        String[] terms = CONTRACTS[loan[1]].split(";");
        loan[4] = 0;
        for (int t = terms.length - 1; t >= 0; t--) {
            Boolean holds = holds(terms[t], l, hour);
            if (holds != null && !holds) {
                loan[4] = 1 + t;
            }
        }
        for (int t = 0; t < terms.length; t++) {
            Boolean holds = holds(terms[t], l, hour);
            if (holds != null && !holds && !still.get(l)[t]) {
                told.get(l).add(new int[] {hour, t});
            }
            if (holds != null) {
                still.get(l)[t] = !holds;
            }
        }
        return loan[4] > 0;
    }

    /** Parts with "|" between them, each a name, a sign and a number, "!" ahead or not; null if it is open. */
    private Boolean holds(String term, int l, int hour) {
        for (String part : term.split("\\|")) {
            boolean turned = part.startsWith("!");
            String bit = turned ? part.substring(1) : part;
            Integer v = value(bit.charAt(0), l, hour);
            if (v == null) {
                return null;
            }
            int order = Integer.compare(v, Integer.parseInt(bit.substring(2)));
            if ((order == bit.charAt(1) - '=') != turned) {
                return true;
            }
        }
        return false;
    }

    private Integer value(char name, int l, int hour) {
        if (name == 'y') {
            return hour / 24 - loans.get(l)[2];
        }
        if (name == 'z') {
            return loans.get(l)[5];
        }
        int i = name - 'a';
        boolean fails = this.fails[i] != null && this.fails[i][0] <= hour && hour <= this.fails[i][1];
        return fails || inputs[i].length == 0 ? null : inputs[i][0];
    }

    private void lend(int o) {
        int contract = random.nextInt(CONTRACTS.length);
        int from = day() + random.nextInt(2);
        int to = from + random.nextInt(3);
        if (loans.size() == 20) {
            Due.state(() -> house.lend(contract, o, from, to));
            return;
        }
        if (day() > 0) {
            Due.argument(() -> house.lend(contract, o, day() - 1, to));
        }
        int due = loans.size();
        for (int[] loan : loans) {
            due = loan[0] == o && loan[2] <= to && from <= loan[3] ? -1 : due;
        }
        due = house.ownerStops(o, day()) ? -2 : due;
        Due.is(due, () -> house.lend(contract, o, from, to));
        if (due >= 0) {
            loans.add(new int[] {o, contract, from, to, -1, 0});
            still.add(new boolean[6]);
            told.add(new ArrayList<>());
        }
    }

    private void treat(int o, int[] steps) {
        int method = random.nextInt(METHODS.length);
        int person = random.nextInt(4);
        int second = random.nextInt(4);
        int done = house.methodRow(o, -1, 0);
        if (done == 30) {
            Due.state(() -> house.treat(o, method, person, second));
            return;
        }
        int due = house.methodReason(o, method, person, now);
        if (due == 0 && METHODS[method].contains("i") && (second == person || house.methodReason(o, method, second, now) == 600)) {
            due = 700;
        }
        if (workshop >= 0 && !lies(house.placeWhere(o, now), workshop)) {
            due = 800;
        } else if (house.ownerStops(o, day())) {
            due = 801;
        } else if (isLent(o, 0)) {
            due = 802;
        }
        Due.is(due, () -> house.treat(o, method, person, second));
        Due.is(done + (due == 0 ? 1 : 0), () -> house.methodRow(o, -1, 0));
        if (due == 0) {
            Due.is(now, () -> house.methodRow(o, done, 1));
        }
        steps[due / 100]++;
    }

    private void look(int o, int[] answers) {
        int person = random.nextInt(4);
        int field = random.nextInt(6);
        int purpose = random.nextInt(4);
        long value;
        switch (field) {
            case 0: value = house.placeWhere(o, now); break;
            case 1: value = lights[o]; break;
            case 2: value = house.ownerValue(o, day(), 0); break;
            case 3: value = warmest[o]; break;
            case 4: value = house.from(o); break;
            default: value = house.methodRow(o, -1, 0); break;
        }
        int answer = house.look(person, o, field, purpose);
        answers[answer]++;
        long due = answer == 0 ? 0 : answer == 2 ? value : Long.signum(value) * (Math.abs(value) / 1000 * 1000);
        Due.is(due, () -> house.shown());
        if (answer != 0 && looks < 100) {
            int[] kept = {person, o, field, purpose, day(), answer};
            for (int what = 0; what < 6; what++) {
                int w = what;
                Due.is(kept[what], () -> house.rightLook(looks, w));
            }
            looks++;
        }
        Due.is(looks, () -> house.rightCount(5));
    }

    private void origin(int o) {
        int claim = random.nextInt(5) - 1;
        Due.is(origins[o], () -> house.origin(o, claim));
        origins[o] = claim;
        int of = random.nextInt(4);
        house.claimOpinion(random.nextInt(3), of, random.nextInt(7), day() + random.nextInt(2), random.nextInt(3));
        if (random.nextInt(8) == 0) {
            house.claimWithdraw(of, random.nextBoolean() ? -1 : day());
        }
    }

    private void tellMuseum(int o) {
        int r = roomPlaces.isEmpty() ? 0 : random.nextInt(roomPlaces.size());
        int p = random.nextInt(PLACES);
        switch (random.nextInt(7)) {
            case 0:
                if (roomPlaces.size() == 4) {
                    Due.state(() -> house.room(p));
                } else {
                    Due.is(roomPlaces.contains(p) ? -1 : roomPlaces.size(), () -> house.room(p));
                    if (!roomPlaces.contains(p)) {
                        roomPlaces.add(p);
                    }
                }
                break;
            case 1:
                if (!roomPlaces.isEmpty()) {
                    int lux = random.nextInt(4) == 0 ? 0 : 500 * random.nextInt(11);
                    Due.is(lamps[r], () -> house.lamp(r, lux));
                    lamps[r] = lux;
                }
                break;
            case 2:
                int spare = random.nextInt(4) == 0 ? -1 : 500 * random.nextInt(18);
                Due.is(spares[o], () -> house.spare(o, spare));
                spares[o] = spare;
                break;
            case 3:
                int shop = random.nextInt(3) == 0 ? random.nextInt(PLACES) : -1;
                Due.is(workshop, () -> house.workshop(shop));
                workshop = shop;
                break;
            case 4:
                boxes[o] = true;
                house.placeBox(o);
                break;
            case 5:
                if (quiets.size() < 20) {
                    int[] q = {p, now, now + random.nextInt(6)};
                    house.placeQuiet(q[0], q[1], q[2]);
                    quiets.add(q);
                }
                break;
            default:
                if (random.nextInt(3) == 0) {
                    now += 24;
                    Due.is(now, () -> house.pass(1));
                }
                break;
        }
    }

    private void tellPapers(int o) {
        switch (random.nextInt(8)) {
            case 0:
                if (claims < 30) {
                    house.ownerClaim(o, 0, day());
                    house.ownerSettle(claims, day() + random.nextInt(2));
                    claims++;
                }
                break;
            case 1: house.ownerWorth(o, day(), 0, random.nextInt(5000000)); break;
            case 2: house.methodRight(random.nextInt(4), random.nextInt(METHODS.length), random.nextInt(3) != 0); break;
            case 3: house.methodTrial(2, random.nextInt(5), true); break;
            case 4: house.methodStock(random.nextInt(2), random.nextInt(4)); break;
            case 5:
                if (!loans.isEmpty()) {
                    int loan = random.nextInt(loans.size());
                    loans.get(loan)[5] = random.nextInt(2);
                    house.termShield(loan, loans.get(loan)[5] == 1);
                }
                break;
            case 6:
                int i = random.nextInt(4);
                fails[i] = new int[] {now, now + random.nextInt(4)};
                house.termFails(i, fails[i][0], fails[i][1]);
                break;
            default:
                int ticket = random.nextInt(house.ticketCount(1));
                int start = 3600 * house.ticketAbout(ticket, 0);
                house.ticketRead(random.nextInt(6), ticket, start + random.nextInt(900));
                house.ticketJoin();
                if (random.nextInt(4) == 0) {
                    house.ticketLeaves(ticket, start + random.nextInt(20000));
                }
                break;
        }
    }

    private void compare(int o) {
        Due.is(now, () -> house.present());
        Due.is(lights[o], () -> house.light(o));
        Due.is(warmest[o], () -> house.warm(o));
        Due.is(roomOf(house.placeWhere(o, now)), () -> house.inRoom(o));
        int agreed = origins[o] < 0 ? -1 : house.claimAgreed(origins[o], day());
        int context = agreed >= 0 && agreed < 4 ? agreed : finds[o];
        Due.is(context, () -> house.from(o));
        if (context == 1 || context == 2) {
            Due.is(house.wayAnswered(context, 1, 0), () -> house.year(o, 1, 0));
        } else {
            Due.element(() -> house.year(o, 1, 0));
        }
        if (!loans.isEmpty()) {
            int loan = random.nextInt(loans.size());
            Due.is(loans.get(loan)[4], () -> house.broken(loan));
        }
    }

    private void compareTold() {
        for (int l = 0; l < loans.size(); l++) {
            int loan = l;
            Due.is(told.get(l).size(), () -> house.termTold(loan, -1, 0));
            for (int k = 0; k < told.get(l).size(); k++) {
                int place = k;
                Due.is(told.get(l).get(k)[0], () -> house.termTold(loan, place, 0));
                Due.is(told.get(l).get(k)[1], () -> house.termTold(loan, place, 1));
            }
        }
    }
}
