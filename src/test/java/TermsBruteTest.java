import java.util.ArrayList;
import java.util.List;
import java.util.Random;

/** Random contracts as trees: how they are written, and what is open, broken and told of loans, held against the trees. */
public final class TermsBruteTest {
    private static final int FALSE = 0;
    private static final int TRUE = 1;
    private static final int OPEN = 2;

    /** A part of a contract: a name with its sign and number, or others joined by '|' or '&'; turned round so many times. */
    private static final class Tree {
        char kind;
        String name;
        char sign;
        int number;
        int turns;
        final List<Tree> inner = new ArrayList<>();
    }

    private final Random random;
    private final DigHouse house = new DigHouse();
    private final List<List<Tree>> contracts = new ArrayList<>();
    private final List<int[]> loans = new ArrayList<>();
    private final List<List<int[]>> told = new ArrayList<>();
    private final List<boolean[]> still = new ArrayList<>();
    private final List<int[]> inputRows = new ArrayList<>();
    private final int[][] fails = new int[8][];
    private final int[] answers = new int[20];

    private TermsBruteTest(int seed) {
        random = new Random(seed);
    }

    public static void main(String[] args) {
        for (int seed = 0; seed < 200; seed++) {
            new TermsBruteTest(seed).run();
        }
        Due.end();
    }

    private void run() {
        house.place(-1, 1000);
        house.place(-1, 1000);
        house.room(0);
        house.context();
        for (int i = 0; i < 6; i++) {
            house.find(0, 0, -1);
            house.object(i, 1, 1, 1, 1);
        }
        for (int i = 0; i < 3; i++) {
            contract();
        }
        for (int i = 0; i < 14; i++) {
            lend();
            if (random.nextInt(8) == 0) {
                house.room(1);
            }
            if (random.nextInt(3) == 0) {
                int name = random.nextInt(4);
                int from = house.present() + random.nextInt(4) - 1;
                if (from >= 0) {
                    fails[name] = new int[] {from, from + random.nextInt(3)};
                    house.termFails(name, fails[name][0], fails[name][1]);
                }
            }
            if (random.nextInt(5) == 0) {
                house.pass(1 + random.nextInt(2));
            }
            hour();
            for (int loan = 0; loan < loans.size(); loan++) {
                compare(loan, house.present() - random.nextInt(4));
                compare(loan, random.nextInt(100));
            }
        }
    }

    private void contract() {
        List<Tree> terms = new ArrayList<>();
        String text;
        do {
            terms.clear();
            int count = 1 + random.nextInt(4);
            StringBuilder all = new StringBuilder();
            for (int i = 0; i < count; i++) {
                Tree term = tree(random.nextInt(3));
                terms.add(term);
                all.append(i > 0 ? ";" : "").append(text(term, 0));
            }
            text = all.toString();
        } while (text.length() > 80 || !isShallow(text));
        for (char c : text.toCharArray()) {
            house.termUnit(c);
        }
        Due.is(contracts.size(), () -> house.termRead());
        contracts.add(terms);
        StringBuilder written = new StringBuilder();
        for (Tree term : terms) {
            written.append(written(term)).append(';');
        }
        int contract = contracts.size() - 1;
        Due.is(written.length(), () -> house.termWritten(contract, -1));
        for (int i = 0; i < written.length(); i++) {
            int at = i;
            Due.is(written.charAt(i), () -> house.termWritten(contract, at));
        }
        Due.index(() -> house.termWritten(contract, written.length()));
        Due.is(terms.size(), () -> house.termMany(contract));
    }

    private static boolean isShallow(String text) {
        int depth = 0;
        for (char c : text.toCharArray()) {
            depth += c == '(' ? 1 : c == ')' ? -1 : 0;
            if (depth > 5) {
                return false;
            }
        }
        return !text.contains("!!!!");
    }

    private Tree tree(int depth) {
        Tree tree = new Tree();
        tree.turns = random.nextInt(4) == 0 ? 1 + random.nextInt(3) : 0;
        int dice = random.nextInt(3);
        if (depth == 0 || dice == 0) {
            tree.kind = 'n';
            tree.name = String.valueOf("abcdabcdefghyz".charAt(random.nextInt(14)));
            tree.sign = "<=>".charAt(random.nextInt(3));
            int[] numbers = {0, 1, 2, 80000, 79000, 78500, 10000, 9000, 8000};
            tree.number = numbers[random.nextInt(numbers.length)];
        } else {
            tree.kind = dice == 1 ? '|' : '&';
            for (int i = 2 + random.nextInt(2); i > 0; i--) {
                tree.inner.add(tree(depth - 1));
            }
        }
        return tree;
    }

    /** As text; place 0: a term, 1: a part, 2: a bit. */
    private String text(Tree tree, int place) {
        StringBuilder out = new StringBuilder();
        if (tree.kind == 'n') {
            for (int i = 0; i < tree.turns; i++) {
                out.append('!');
            }
            out.append(tree.name).append(tree.sign).append(random.nextInt(5) == 0 ? "0" : "").append(tree.number);
            return random.nextInt(8) == 0 ? "(" + out + ")" : out.toString();
        }
        int level = tree.kind == '|' ? 0 : 1;
        for (Tree t : tree.inner) {
            out.append(out.length() > 0 ? String.valueOf(tree.kind) : "").append(text(t, level + 1));
        }
        boolean bare = tree.turns == 0 && place <= level && random.nextInt(4) != 0;
        String text = bare ? out.toString() : "(" + out + ")";
        for (int i = 0; i < tree.turns; i++) {
            text = "!" + text;
        }
        return text;
    }

    private String written(Tree tree) {
        StringBuilder out = new StringBuilder();
        for (int i = 0; i < tree.turns; i++) {
            out.append('!');
        }
        if (tree.kind == 'n') {
            return out.append(tree.name).append(tree.sign).append(tree.number).toString();
        }
        out.append('(');
        for (int i = 0; i < tree.inner.size(); i++) {
            out.append(i > 0 ? String.valueOf(tree.kind) : "").append(written(tree.inner.get(i)));
        }
        return out.append(')').toString();
    }

    private void lend() {
        int day = house.present() / 24;
        int contract = random.nextInt(3);
        int thing = random.nextInt(6);
        int from = day + random.nextInt(3);
        int to = from + random.nextInt(3);
        int due = loans.size();
        for (int[] l : loans) {
            due = l[1] == thing && l[2] <= to && from <= l[3] ? -1 : due;
        }
        if (loans.size() < 20) {
            int want = due;
            Due.is(want, () -> house.lend(contract, thing, from, to));
            if (due >= 0) {
                answers[loans.size()] = -1;
                loans.add(new int[] {contract, thing, from, to, 0});
                told.add(new ArrayList<>());
                still.add(new boolean[6]);
                if (random.nextInt(2) == 0) {
                    house.termShield(due, true);
                    loans.get(due)[4] = 1;
                }
            }
        }
    }

    private int value(int loan, int hour, String name) {
        if (name.equals("y")) {
            return Math.floorDiv(hour, 24) - loans.get(loan)[2];
        }
        if (name.equals("z")) {
            return loans.get(loan)[4];
        }
        int input = name.charAt(0) - 'a';
        if (fails[input] != null && fails[input][0] <= hour && hour <= fails[input][1]) {
            return -1000000;
        }
        int value = -1000000;
        for (int[] row : inputRows) {
            value = row[0] == input && row[1] <= hour ? row[2] : value;
        }
        return value;
    }

    private int judge(Tree tree, int loan, int hour) {
        int is;
        if (tree.kind == 'n') {
            int value = value(loan, hour, tree.name);
            if (value == -1000000) {
                return OPEN;
            }
            boolean holds = tree.sign == '<' ? value < tree.number : tree.sign == '>' ? value > tree.number : value == tree.number;
            is = holds ? TRUE : FALSE;
        } else {
            int stop = tree.kind == '|' ? TRUE : FALSE;
            is = 1 - stop;
            for (Tree t : tree.inner) {
                int one = judge(t, loan, hour);
                if (one == OPEN) {
                    return OPEN;
                }
                if (one == stop) {
                    is = stop;
                    break;
                }
            }
        }
        return tree.turns % 2 == 0 ? is : 1 - is;
    }

    private void hour() {
        int hour = house.present();
        int before = house.had(2);
        int[] answersNow = new int[loans.size()];
        int outside = random.nextInt(40000) - 20000;
        int damp = random.nextInt(20000);
        DigHouse ahead = house;
        int broken = ahead.hour(outside, damp);
        for (int r = 0; r < before; r++) {
            inputRows.add(new int[] {2 * r, hour, Math.max(0, Math.min(999999, house.roomDegrees(r) + 60000))});
            inputRows.add(new int[] {2 * r + 1, hour, Math.max(0, Math.min(999999, house.roomDamp(r)))});
        }
        int due = 0;
        for (int loan = 0; loan < loans.size(); loan++) {
            int[] l = loans.get(loan);
            answersNow[loan] = -1;
            if (l[2] <= hour / 24 && hour / 24 <= l[3]) {
                answersNow[loan] = 0;
                List<Tree> terms = contracts.get(l[0]);
                for (int t = 0; t < terms.size(); t++) {
                    int is = judge(terms.get(t), loan, hour);
                    if (is == FALSE) {
                        answersNow[loan] = answersNow[loan] == 0 ? 1 + t : answersNow[loan];
                        if (!still.get(loan)[t]) {
                            told.get(loan).add(new int[] {hour, t});
                        }
                    }
                    still.get(loan)[t] = is == FALSE || is == OPEN && still.get(loan)[t];
                }
                due += answersNow[loan] > 0 ? 1 : 0;
            }
            int at = loan;
            Due.is(answersNow[loan], () -> house.broken(at));
        }
        Due.compare(String.valueOf(due), String.valueOf(broken));
        Due.is(inputRows.size(), () -> house.termCount(4));
    }

    private void compare(int loan, int hour) {
        List<Tree> terms = contracts.get(loans.get(loan)[0]);
        int k = 0;
        for (int t = 0; t < terms.size() && hour >= 0; t++) {
            if (judge(terms.get(t), loan, hour) == OPEN) {
                int at = k;
                Due.is(t, () -> house.termOpen(loan, hour, at));
                k++;
            }
        }
        int end = k;
        if (hour >= 0) {
            Due.is(-1, () -> house.termOpen(loan, hour, end));
        } else {
            Due.argument(() -> house.termOpen(loan, hour, end));
        }
        List<int[]> all = told.get(loan);
        Due.is(all.size(), () -> house.termTold(loan, -1, 0));
        int[] l = loans.get(loan);
        StringBuilder letter = new StringBuilder("#" + loan + "@" + l[1] + ":" + l[2] + "-" + l[3] + "=");
        int fee = 5 * (l[3] - l[2] + 1) + 20 * terms.size() + (l[4] == 0 ? 300 : 0) + 50 * all.size();
        letter.append(fee);
        for (int i = 0; i < all.size(); i++) {
            int at = i;
            letter.append('!').append(all.get(i)[1]);
            Due.is(all.get(i)[0], () -> house.termTold(loan, at, 0));
            Due.is(all.get(i)[1], () -> house.termTold(loan, at, 1));
        }
        Due.is(fee, () -> house.termFee(loan));
        Due.is(letter.length(), () -> house.termLetter(loan, -1));
        for (int i = 0; i < letter.length(); i++) {
            int at = i;
            Due.is(letter.charAt(i), () -> house.termLetter(loan, at));
        }
    }
}
