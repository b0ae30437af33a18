import java.math.BigInteger;
import java.util.ArrayList;
import java.util.List;
import java.util.Random;

/** Random slots, tickets, readers: odds held against binomials, the rest against lists. */
public final class TicketsBruteTest {
    private final Random random;
    private final DigHouse house = new DigHouse();
    /** Places, above, below, risk above, risk below. */
    private final List<int[]> slots = new ArrayList<>();
    /** Slot, guests, kind, back, out. */
    private final List<int[]> tickets = new ArrayList<>();
    private final List<int[]> waiting = new ArrayList<>();
    /** Ticket, second, reader. */
    private final List<int[]> letIn = new ArrayList<>();
    private List<int[]> joined = new ArrayList<>();
    private int[] prices = new int[5];
    private List<int[]> offs = new ArrayList<>();
    private int clauses;

    private TicketsBruteTest(int seed) {
        random = new Random(seed);
    }

    public static void main(String[] args) {
        for (int seed = 0; seed < 150; seed++) {
            new TicketsBruteTest(seed).run();
        }
        Due.end();
    }

    private void run() {
        for (int i = 0; i < 150; i++) {
            step();
        }
        compare();
    }

    private void step() {
        if (slots.isEmpty() || slots.size() < 8 && random.nextInt(12) == 0) {
            int places = 1 + random.nextInt(20);
            Due.is(slots.size(), () -> house.ticketSlot(places));
            slots.add(new int[] {places, 1, 1, 0, 1});
        }
        int slot = random.nextInt(slots.size());
        int n = 1 + random.nextInt(random.nextInt(5) == 0 ? 9 : 3);
        int kind = random.nextInt(5);
        int ticket = random.nextInt(tickets.size() + 1);
        switch (random.nextInt(10)) {
            case 0: over(slot); break;
            case 1: case 2: sell(slot, n, kind); break;
            case 3:
                if (waiting.size() < 30) {
                    Due.is(waiting.size(), () -> house.ticketWaits(slot, n, kind));
                    waiting.add(new int[] {slot, n, kind, -1});
                } else {
                    Due.state(() -> house.ticketWaits(slot, n, kind));
                }
                break;
            case 4: if (ticket < tickets.size()) back(ticket); break;
            case 5: rules(); break;
            case 6: case 7: if (ticket < tickets.size()) read(random.nextInt(6), ticket); break;
            case 8: if (random.nextInt(3) == 0) join(); break;
            default: if (ticket < tickets.size()) leaves(ticket); break;
        }
    }

    private void over(int slot) {
        int[] s = slots.get(slot);
        int below = 1 + random.nextInt(16);
        int above = random.nextInt(below + 1);
        int riskBelow = 1 + random.nextInt(1000);
        int riskAbove = random.nextInt(Math.max(1, riskBelow / (1 + random.nextInt(20)))  + 1);
        house.ticketOver(slot, above, below, riskAbove, riskBelow);
        slots.set(slot, new int[] {s[0], above, below, riskAbove, riskBelow});
        Due.is(most(slot), () -> house.ticketMost(slot));
        int n = random.nextInt(29);
        BigInteger odds = odds(slots.get(slot), n);
        StringBuilder digits = new StringBuilder();
        for (int k = 39; k >= 0; k--) {
            digits.append(house.ticketOdds(slot, n, k));
        }
        Due.compare(odds.toString(), new BigInteger(digits.toString()).toString());
    }

    private static BigInteger odds(int[] s, int n) {
        BigInteger sum = BigInteger.ZERO;
        for (int j = s[0] + 1; j <= n; j++) {
            BigInteger ways = BigInteger.ONE;
            for (int i = 0; i < j; i++) {
                ways = ways.multiply(BigInteger.valueOf(n - i)).divide(BigInteger.valueOf(i + 1));
            }
            sum = sum.add(ways.multiply(BigInteger.valueOf(s[1]).pow(j)).multiply(BigInteger.valueOf(s[2] - s[1]).pow(n - j)));
        }
        return sum;
    }

    private int most(int slot) {
        int[] s = slots.get(slot);
        int n = s[0];
        while (n < s[0] + 8 && odds(s, n + 1).multiply(BigInteger.valueOf(s[4]))
                .compareTo(BigInteger.valueOf(s[2]).pow(n + 1).multiply(BigInteger.valueOf(s[3]))) <= 0) {
            n++;
        }
        return n;
    }

    private boolean hasRoom(int slot, int n) {
        int sold = n;
        for (int[] t : tickets) {
            sold += t[0] == slot && t[3] == 0 ? t[1] : 0;
        }
        return sold <= most(slot);
    }

    private void sell(int slot, int n, int kind) {
        if (tickets.size() == 60) {
            Due.state(() -> house.ticketSell(slot, n, kind));
            return;
        }
        int due = hasRoom(slot, n) ? tickets.size() : -1;
        Due.is(due, () -> house.ticketSell(slot, n, kind));
        if (due >= 0) {
            tickets.add(new int[] {slot, n, kind, 0, -1});
        }
    }

    private void back(int ticket) {
        boolean in = false;
        for (int[] l : letIn) {
            in |= l[0] == ticket;
        }
        int[] t = tickets.get(ticket);
        int due = -1;
        if (t[3] == 0 && !in) {
            t[3] = 1;
            due = 0;
            for (int[] w : waiting) {
                if (w[0] == t[0] && w[3] < 0 && tickets.size() < 60 && hasRoom(w[0], w[1])) {
                    w[3] = tickets.size();
                    tickets.add(new int[] {w[0], w[1], w[2], 0, -1});
                    due++;
                }
            }
        }
        int want = due;
        Due.is(want, () -> house.ticketBack(ticket));
    }

    private void rules() {
        StringBuilder text = new StringBuilder();
        int[] newPrices = new int[5];
        List<int[]> newOffs = new ArrayList<>();
        int count = random.nextInt(9);
        boolean wrong = random.nextInt(4) == 0;
        for (int i = 0; i < count; i++) {
            text.append(i > 0 ? "," : "");
            if (random.nextBoolean()) {
                int kind = random.nextInt(5);
                newPrices[kind] = random.nextInt(900);
                text.append(kind).append('=').append(newPrices[kind]);
            } else {
                int[] off = {1 + random.nextInt(9), random.nextInt(101)};
                newOffs.add(off);
                text.append('g').append(off[0]).append('-').append(off[1]);
            }
        }
        text.append(wrong ? "," : "");
        if (text.length() > 60) {
            return;
        }
        for (char c : text.toString().toCharArray()) {
            house.ticketUnit(c);
        }
        Due.is(wrong ? -1 - (count == 0 || count == 8 ? text.length() - 1 : text.length()) : count, () -> house.ticketRules());
        if (!wrong) {
            prices = newPrices;
            offs = newOffs;
            clauses = count;
        }
    }

    private void read(int reader, int ticket) {
        int[] t = tickets.get(ticket);
        int second = 3600 * t[0] + random.nextInt(1000) - 50;
        if (second < 0) {
            Due.argument(() -> house.ticketRead(reader, ticket, second));
            return;
        }
        int due = t[3] == 1 ? 2 : second < 3600 * t[0] ? 3 : second > 3600 * t[0] + 900 ? 4 : 1;
        for (int[] l : letIn) {
            due = l[0] == ticket && l[2] == reader ? 0 : due;
        }
        int want = due;
        Due.is(want, () -> house.ticketRead(reader, ticket, second));
        if (due == 1) {
            letIn.add(new int[] {ticket, second, reader});
        }
    }

    private List<int[]> doubles() {
        List<int[]> all = new ArrayList<>();
        for (int i = 0; i < joined.size(); i++) {
            if (i > 0 && joined.get(i - 1)[0] == joined.get(i)[0]) {
                all.add(joined.get(i));
            }
        }
        return all;
    }

    private void join() {
        joined = new ArrayList<>(letIn);
        joined.sort((a, b) -> java.util.Arrays.compare(a, b));
        Due.is(doubles().size(), () -> house.ticketJoin());
    }

    private int firstIn(int ticket) {
        for (int[] l : joined) {
            if (l[0] == ticket) {
                return l[1];
            }
        }
        return -1;
    }

    private void leaves(int ticket) {
        int[] t = tickets.get(ticket);
        int second = 3600 * t[0] + random.nextInt(1500);
        boolean due = firstIn(ticket) >= 0 && firstIn(ticket) <= second && t[4] < 0;
        Due.compare(String.valueOf(due), String.valueOf(house.ticketLeaves(ticket, second)));
        t[4] = due ? second : t[4];
        for (int s = 0; s < 8; s++) {
            int at = 3600 * s + random.nextInt(1500);
            int inside = 0;
            for (int i = 0; i < tickets.size(); i++) {
                int out = tickets.get(i)[4];
                inside += firstIn(i) >= 0 && firstIn(i) <= at && (out < 0 || out > at) ? tickets.get(i)[1] : 0;
            }
            int want = inside;
            Due.is(want, () -> house.ticketInside(at));
        }
    }

    private void compare() {
        for (int i = 0; i < tickets.size(); i++) {
            int ticket = i;
            int[] t = tickets.get(i);
            for (int what = 0; what < 4; what++) {
                int w = what;
                Due.is(t[what], () -> house.ticketAbout(ticket, w));
            }
            int percent = 0;
            for (int[] off : offs) {
                percent = off[0] <= t[1] ? Math.max(percent, off[1]) : percent;
            }
            int whole = t[1] * prices[t[2]];
            int price = whole - whole * percent / 100;
            Due.is(price, () -> house.ticketPrice(ticket));
            String five = String.format("%05d", (7919 * i + 31 * t[0] + 12345) % 100000);
            int[] times = {3, 7, 1, 3, 7};
            int sum = 0;
            for (int d = 0; d < 5; d++) {
                int at = d;
                sum += times[d] * (five.charAt(d) - '0');
                Due.is(five.charAt(d) - '0', () -> house.ticketCode(ticket, at));
            }
            int check = (1000 - sum) % 10;
            Due.is(check, () -> house.ticketCode(ticket, 5));
            int code = Integer.parseInt(five) * 10 + check;
            Due.is(ticket, () -> house.ticketWhose(code));
            Due.is(-1, () -> house.ticketWhose(code / 10 * 10 + (check + 1) % 10));
        }
        for (int i = 0; i < waiting.size(); i++) {
            int at = i;
            Due.is(waiting.get(i)[3], () -> house.ticketGiven(at));
        }
        List<int[]> twice = doubles();
        for (int k = 0; k < twice.size(); k++) {
            int at = k;
            Due.is(twice.get(k)[0], () -> house.ticketTwice(at, 0));
            Due.is(twice.get(k)[2], () -> house.ticketTwice(at, 1));
            Due.is(twice.get(k)[1], () -> house.ticketTwice(at, 2));
        }
        Due.index(() -> house.ticketTwice(twice.size(), 0));
        int open = 0;
        for (int[] w : waiting) {
            open += w[3] < 0 ? 1 : 0;
        }
        Due.compare(slots.size() + " " + tickets.size() + " " + open + " " + clauses, house.ticketCount(0) + " "
                + house.ticketCount(1) + " " + house.ticketCount(2) + " " + house.ticketCount(3));
    }
}
