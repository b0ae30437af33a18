import java.util.ArrayList;
import java.util.List;
import java.util.Random;

/** Random rules, embargoes and agreements, held against rules that are read anew for each look. */
public final class RightsBruteTest {
    private static final int DAYS = 6;

    private final Random random;
    private final DigHouse house = new DigHouse();
    private final List<String> rules = new ArrayList<>();
    private final List<Boolean> told = new ArrayList<>();
    private final List<Integer> roles = new ArrayList<>();
    private final int[] kinds = new int[3];
    private final int[] communities = new int[3];
    private final int[] embargoes = {-1, -1, -1};
    private final List<int[]> agreements = new ArrayList<>();
    private final List<int[]> looks = new ArrayList<>();
    private final List<int[]> requests = new ArrayList<>();
    private final int[] limits = new int[12];

    private RightsBruteTest(int seed) {
        random = new Random(seed);
    }

    public static void main(String[] args) {
        for (int seed = 0; seed < 250; seed++) {
            new RightsBruteTest(seed).run();
        }
        Due.end();
    }

    private void run() {
        house.context();
        for (int r = 0; r < 3; r++) {
            kinds[r] = random.nextInt(4);
            communities[r] = random.nextInt(4) - 1;
            house.find(0, kinds[r], communities[r]);
            house.object(r, 1, 1, 1, 1);
        }
        for (int p = 0; p < 3; p++) {
            roles.add(random.nextInt(256));
            limits[p] = 3;
            house.rightPerson(roles.get(p));
        }
        for (int i = 0; i < 40; i++) {
            step();
        }
    }

    private void step() {
        int person = random.nextInt(3);
        int record = random.nextInt(3);
        int day = random.nextInt(DAYS);
        switch (random.nextInt(8)) {
            case 0: case 1: rule(); break;
            case 2:
                if (!rules.isEmpty()) {
                    int rule = random.nextInt(rules.size());
                    Due.compare(String.valueOf(told.get(rule)), String.valueOf(house.rightDrop(rule)));
                    told.set(rule, false);
                }
                break;
            case 3:
                if (random.nextInt(3) == 0) {
                    int until = random.nextInt(DAYS) - 1;
                    Due.is(embargoes[record], () -> house.rightEmbargo(record, until));
                    embargoes[record] = until;
                } else {
                    int to = day + random.nextInt(3);
                    agreements.add(new int[] {person, record, day, to});
                    Due.is(agreements.size(), () -> house.rightAgreement(person, record, day, to));
                }
                break;
            case 4: look(person, record); break;
            case 5: export(person, day); break;
            case 6: request(person, record); break;
            default: Due.is(idle(day), () -> house.rightIdle(day)); break;
        }
    }

    private void rule() {
        if (rules.size() == 20) {
            return;
        }
        StringBuilder text = new StringBuilder(String.valueOf("smass".charAt(random.nextInt(5))));
        for (int i = random.nextInt(4); i > 0; i--) {
            text.append(' ').append(random.nextInt(3) == 0 ? "!" : "");
            int dice = random.nextInt(6);
            text.append("rkfpcg".charAt(dice));
            if (dice < 5) {
                text.append(random.nextInt(new int[] {8, 4, 6, 4, 3}[dice]));
            }
        }
        for (char c : text.toString().toCharArray()) {
            house.rightUnit(c, 0, 0, 0);
        }
        Due.is(rules.size(), () -> house.rightRule());
        rules.add(text.toString());
        told.add(true);
    }

    private boolean suits(String rule, int person, int record, int field, int purpose, int day) {
        for (String condition : rule.substring(1).trim().split(" ")) {
            if (condition.isEmpty()) {
                continue;
            }
            boolean turned = condition.startsWith("!");
            String c = turned ? condition.substring(1) : condition;
            int number = c.length() > 1 ? c.charAt(1) - '0' : 0;
            boolean is = false;
            switch (c.charAt(0)) {
                case 'r': is = (roles.get(person) >> number & 1) == 1; break;
                case 'k': is = kinds[record] == number; break;
                case 'f': is = field == number; break;
                case 'p': is = purpose == number; break;
                case 'c': is = communities[record] == number; break;
                default:
                    for (int[] a : agreements) {
                        is |= a[0] == person && a[1] == record && a[2] <= day && day <= a[3];
                    }
                    break;
            }
            if (is == turned) {
                return false;
            }
        }
        return true;
    }

    private int gets(int person, int record, int field, int purpose, int day) {
        if (day <= embargoes[record] && (roles.get(person) & 128) == 0) {
            return 0;
        }
        int answer = 0;
        for (int r = 0; r < rules.size(); r++) {
            if (told.get(r) && suits(rules.get(r), person, record, field, purpose, day)) {
                answer = "ams".indexOf(rules.get(r).charAt(0));
                if (answer == 0) {
                    return 0;
                }
            }
        }
        return answer;
    }

    private int today() {
        return house.present() / 24;
    }

    private void look(int person, int record) {
        if (random.nextInt(6) == 0) {
            house.pass(1);
        }
        for (int i = 0; i < 6; i++) {
            int field = random.nextInt(6);
            int purpose = random.nextInt(4);
            int due = gets(person, record, field, purpose, today());
            Due.is(due, () -> house.look(person, record, field, purpose));
            if (due > 0 && looks.size() < 100) {
                looks.add(new int[] {person, record, field, purpose, today(), due});
            }
        }
        Due.is(looks.size(), () -> house.rightCount(5));
        for (int k = 0; k < looks.size(); k += 7) {
            for (int what = 0; what < 6; what++) {
                int at = k;
                int w = what;
                Due.is(looks.get(k)[what], () -> house.rightLook(at, w));
            }
        }
        List<Integer> persons = new ArrayList<>();
        for (int p = 0; p < 3; p++) {
            for (int[] l : looks) {
                if (l[0] == p && l[1] == record && !persons.contains(p)) {
                    persons.add(p);
                }
            }
        }
        for (int k = 0; k <= persons.size(); k++) {
            int at = k;
            Due.is(k < persons.size() ? persons.get(k) : -1, () -> house.rightLooked(record, at));
        }
    }

    private void export(int person, int day) {
        List<Integer> records = new ArrayList<>();
        for (int r = 0; r < 3; r++) {
            boolean whole = true;
            for (int field = 0; field < 6; field++) {
                whole &= gets(person, r, field, 3, day) > 0;
            }
            if (whole) {
                records.add(r);
            }
        }
        Due.is(records.size(), () -> house.rightExport(person, day));
        for (int k = 0; k < records.size(); k++) {
            int at = k;
            Due.is(records.get(k), () -> house.rightExported(at));
        }
        Due.element(() -> house.rightExported(records.size()));
    }

    private void request(int person, int record) {
        int day = random.nextInt(70);
        if (random.nextInt(5) == 0) {
            int most = random.nextInt(6);
            Due.is(limits[person], () -> house.rightLimit(person, most));
            limits[person] = most;
        }
        int count = 1;
        for (int[] r : requests) {
            count += r[0] == person && r[1] <= day && r[1] > day - 30 ? 1 : 0;
        }
        int due = count > limits[person] ? -1 : count;
        Due.is(due, () -> house.rightRequest(person, record, day));
        if (due > 0) {
            requests.add(new int[] {person, day});
        }
        Due.is(requests.size(), () -> house.rightCount(6));
    }

    private int idle(int day) {
        List<Integer> before = answers(day);
        for (int r = 0; r < rules.size(); r++) {
            if (told.get(r)) {
                told.set(r, false);
                boolean same = before.equals(answers(day));
                told.set(r, true);
                if (same) {
                    return r;
                }
            }
        }
        return -1;
    }

    private List<Integer> answers(int day) {
        List<Integer> all = new ArrayList<>();
        for (int i = 0; i < 3 * 3 * 6 * 4; i++) {
            all.add(gets(i / 72, i / 24 % 3, i / 4 % 6, i % 4, day));
        }
        return all;
    }
}
