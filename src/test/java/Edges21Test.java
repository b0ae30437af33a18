import java.math.BigInteger;
import java.util.function.Supplier;

/** The edges of promise 21: ticketMost up to ticketCode. */
public final class Edges21Test {
    private static final int MIN = Integer.MIN_VALUE;
    private static final int MAX = Integer.MAX_VALUE;

    public static void main(String[] args) {
        bounds();
        most();
        odds();
        sold();
        mostTickets();
        back();
        waiting();
        mostWaiting();
        pads();
        texts();
        prices();
        percentages();
        codes();
        roundCode();
        Due.end();
    }

    /** Eight slots, each of 20 places, all of whose guests may stay away. */
    private static DigHouse slots() {
        DigHouse x = new DigHouse();
        for (int s = 0; s < 8; s++) {
            x.ticketSlot(20);
            x.ticketOver(s, 0, 1, 0, 1);
        }
        return x;
    }

    private static DigHouse tickets(int count) {
        DigHouse x = slots();
        for (int t = 0; t < count; t++) {
            int ticket = t;
            Due.is(ticket, () -> x.ticketSell(ticket % 8, 1, ticket % 5));
        }
        return x;
    }

    private static DigHouse requests(int count) {
        DigHouse x = slots();
        for (int q = 0; q < count; q++) {
            int request = q;
            Due.is(request, () -> x.ticketWaits(request % 8, 9, 4));
        }
        return x;
    }

    private static DigHouse pad(int signs) {
        DigHouse x = new DigHouse();
        Houses.signs(Houses.repeated("!", signs), x::ticketUnit);
        return x;
    }

    private static void bounds() {
        Supplier<DigHouse> house = Edges21Test::slots;
        Supplier<DigHouse> all = () -> tickets(60);
        Bounds.of(house, "ticketMost", 3).index(0, 0, 7).hold();
        Bounds.of(house, "ticketOdds", 3, 20, 5).index(0, 0, 7).argument(1, 0, 28).index(2, 0, 39).hold();
        Bounds.of(() -> tickets(59), "ticketSell", 3, 2, 4).index(0, 0, 7).argument(1, 1, 9).index(2, 0, 4).hold().full(all);
        Bounds.of(all, "ticketBack", 3).index(0, 0, 59).hold();
        Bounds.of(() -> requests(29), "ticketWaits", 3, 2, 4).index(0, 0, 7).argument(1, 1, 9).index(2, 0, 4).hold().full(() -> requests(30));
        Bounds.of(() -> requests(30), "ticketGiven", 3).index(0, 0, 29).hold();
        Bounds.of(() -> pad(59), "ticketUnit", 50).argument(0, 33, 126).hold().full(() -> pad(60));
        Bounds.of(DigHouse::new, "ticketUnit", 50).argument(0, 33, 126).hold();
        Bounds.of(() -> pad(60), "ticketRules").hold();
        Bounds.of(all, "ticketPrice", 3).index(0, 0, 59).hold();
        Bounds.of(all, "ticketAbout", 3, 2).index(0, 0, 59).index(1, 0, 3).hold();
        Bounds.of(all, "ticketCode", 3, 2).index(0, 0, 59).index(1, 0, 5).hold();
        DigHouse none = new DigHouse();
        Due.index(() -> none.ticketMost(0));
        Due.index(() -> none.ticketOdds(0, 29, 0));
        Due.index(() -> none.ticketSell(0, 0, 0));
        Due.index(() -> none.ticketBack(0));
        Due.index(() -> none.ticketWaits(0, 0, 0));
        Due.index(() -> none.ticketGiven(0));
        Due.index(() -> none.ticketPrice(0));
        Due.index(() -> none.ticketCode(0, 0));
    }

    /** What stands above in the odds that more than the places come of n guests. */
    private static BigInteger above(int places, int n, int come, int of) {
        BigInteger sum = BigInteger.ZERO;
        for (int k = places + 1; k <= n; k++) {
            BigInteger ways = BigInteger.ONE;
            for (int i = 0; i < k; i++) {
                ways = ways.multiply(BigInteger.valueOf(n - i)).divide(BigInteger.valueOf(i + 1));
            }
            sum = sum.add(ways.multiply(BigInteger.valueOf(come).pow(k)).multiply(BigInteger.valueOf(of - come).pow(n - k)));
        }
        return sum;
    }

    /** Odds that are just the risk may be; up to eight more than the places. */
    private static void most() {
        DigHouse x = new DigHouse();
        x.ticketSlot(1);
        // Of two guests each comes with 1 of 2: both with 1 of 4; of three, more than one with 1 of 2.
        int[][] due = {{1, 4, 2}, {249, 1000, 1}, {251, 1000, 2}, {1, 2, 3}, {499, 1000, 2}, {11, 16, 4}, {687, 1000, 3}, {0, 1, 1}, {1, 1, 9}};
        for (int[] row : due) {
            x.ticketOver(0, 1, 2, row[0], row[1]);
            Due.is(row[2], () -> x.ticketMost(0));
        }
        for (int places = 1; places <= 20; places++) {
            DigHouse y = new DigHouse();
            y.ticketSlot(places);
            int p = places;
            Due.is(p, () -> y.ticketMost(0));
            y.ticketOver(0, 0, 16, 0, 1000);
            Due.is(p + 8, () -> y.ticketMost(0));
            y.ticketOver(0, 15, 16, 1, 1000);
            int n = p;
            while (n < p + 8 && above(p, n + 1, 15, 16).multiply(BigInteger.valueOf(1000)).compareTo(BigInteger.valueOf(16).pow(n + 1)) <= 0) {
                n++;
            }
            int limit = n;
            Due.is(limit, () -> y.ticketMost(0));
            y.ticketOver(0, 1, 16, 1, 1000);
            int m = p;
            while (m < p + 8 && above(p, m + 1, 1, 16).multiply(BigInteger.valueOf(1000)).compareTo(BigInteger.valueOf(16).pow(m + 1)) <= 0) {
                m++;
            }
            int far = m;
            Due.is(far, () -> y.ticketMost(0));
        }
    }

    private static void odds() {
        // At first all come: odds of 1 of 1, as soon as there are more than the places.
        DigHouse first = new DigHouse();
        first.ticketSlot(13);
        for (int n = 0; n <= 28; n++) {
            for (int k = 0; k < 40; k++) {
                int guests = n;
                int digit = k;
                Due.is(n > 13 && k == 0 ? 1 : 0, () -> first.ticketOdds(0, guests, digit));
            }
        }
        int[][] told = {{1, 1, 2}, {1, 15, 16}, {20, 15, 16}, {20, 1, 16}, {20, 16, 16}, {5, 0, 16}, {19, 3, 7}, {1, 1, 1}};
        for (int[] row : told) {
            DigHouse x = new DigHouse();
            x.ticketSlot(row[0]);
            x.ticketOver(0, row[1], row[2], 0, 1);
            for (int n = 0; n <= 28; n++) {
                BigInteger due = above(row[0], n, row[1], row[2]);
                StringBuilder got = new StringBuilder();
                for (int k = 0; k < 40; k++) {
                    got.insert(0, x.ticketOdds(0, n, k));
                }
                Due.compare(row[0] + " " + n + " " + due, row[0] + " " + n + " " + new BigInteger(got.toString()));
            }
        }
    }

    /** Groups up to the most; tickets that were given back make room. */
    private static void sold() {
        DigHouse x = new DigHouse();
        x.ticketSlot(20);
        Due.is(0, () -> x.ticketSell(0, 9, 0));
        Due.is(1, () -> x.ticketSell(0, 9, 0));
        Due.is(-1, () -> x.ticketSell(0, 3, 0));
        Due.is(2, () -> x.ticketSell(0, 2, 0));
        Due.is(-1, () -> x.ticketSell(0, 1, 0));
        Due.is(0, () -> x.ticketBack(2));
        Due.is(-1, () -> x.ticketSell(0, 3, 0));
        Due.is(3, () -> x.ticketSell(0, 1, 0));
        Due.is(4, () -> x.ticketSell(0, 1, 0));
        Due.is(-1, () -> x.ticketSell(0, 1, 0));
        // With a lesser most than before, what was sold stays; nothing more is.
        DigHouse y = new DigHouse();
        y.ticketSlot(1);
        y.ticketOver(0, 0, 1, 0, 1);
        Due.is(0, () -> y.ticketSell(0, 9, 0));
        y.ticketOver(0, 1, 1, 0, 1);
        Due.is(1, () -> y.ticketMost(0));
        Due.is(-1, () -> y.ticketSell(0, 1, 0));
        Due.is(0, () -> y.ticketBack(0));
        Due.is(-1, () -> y.ticketSell(0, 2, 0));
        Due.is(1, () -> y.ticketSell(0, 1, 0));
    }

    /** Sixty tickets; the state is asked ahead of the group, the slot and kind ahead of both. */
    private static void mostTickets() {
        DigHouse x = tickets(60);
        Due.state(() -> x.ticketSell(0, 1, 0));
        Due.state(() -> x.ticketSell(0, 10, 0));
        Due.index(() -> x.ticketSell(8, 10, 0));
        Due.index(() -> x.ticketSell(0, 10, 5));
        Due.is(0, () -> x.ticketBack(59));
        Due.state(() -> x.ticketSell(0, 1, 0));
        Due.is(60, () -> x.ticketCount(1));
        // Those that wait get none when sixty are there.
        Due.is(0, () -> x.ticketWaits(3, 1, 0));
        Due.is(0, () -> x.ticketBack(3));
        Due.is(-1, () -> x.ticketGiven(0));
        DigHouse y = tickets(59);
        Due.is(0, () -> y.ticketWaits(3, 1, 0));
        Due.is(1, () -> y.ticketWaits(3, 1, 0));
        Due.is(1, () -> y.ticketBack(3));
        Due.is(59, () -> y.ticketGiven(0));
        Due.is(-1, () -> y.ticketGiven(1));
        Due.is(0, () -> y.ticketBack(59));
    }

    /** Given back once, and not when a reader let it in, joined or not. */
    private static void back() {
        DigHouse x = tickets(3);
        Due.is(0, () -> x.ticketBack(0));
        Due.is(-1, () -> x.ticketBack(0));
        Due.is(1, () -> x.ticketAbout(0, 3));
        Due.is(1, () -> x.ticketRead(5, 1, 3600));
        Due.is(-1, () -> x.ticketBack(1));
        Due.is(0, () -> x.ticketAbout(1, 3));
        x.ticketJoin();
        Due.is(-1, () -> x.ticketBack(1));
        // One that no reader let in, though one was asked.
        Due.is(3, () -> x.ticketRead(0, 2, 7199));
        Due.is(4, () -> x.ticketRead(0, 2, 8101));
        Due.is(0, () -> x.ticketBack(2));
        Due.is(2, () -> x.ticketRead(0, 2, 7200));
    }

    /** Those that wait for the slot, in order, each that has room then. */
    private static void waiting() {
        DigHouse x = new DigHouse();
        x.ticketSlot(10);
        x.ticketSlot(10);
        x.ticketSell(0, 9, 0);
        x.ticketSell(0, 1, 0);
        int[][] told = {{0, 8, 1}, {1, 1, 2}, {0, 9, 3}, {0, 1, 4}, {0, 1, 0}};
        for (int q = 0; q < 5; q++) {
            int request = q;
            Due.is(request, () -> x.ticketWaits(told[request][0], told[request][1], told[request][2]));
            Due.is(-1, () -> x.ticketGiven(request));
        }
        Due.is(5, () -> x.ticketCount(2));
        Due.is(2, () -> x.ticketBack(0));
        Due.is(2, () -> x.ticketGiven(0));
        Due.is(-1, () -> x.ticketGiven(1));
        Due.is(-1, () -> x.ticketGiven(2));
        Due.is(3, () -> x.ticketGiven(3));
        Due.is(-1, () -> x.ticketGiven(4));
        Due.is(3, () -> x.ticketCount(2));
        Due.is(8, () -> x.ticketAbout(2, 1));
        Due.is(1, () -> x.ticketAbout(2, 2));
        Due.is(0, () -> x.ticketAbout(2, 0));
        Due.is(1, () -> x.ticketBack(1));
        Due.is(4, () -> x.ticketGiven(4));
        Due.is(0, () -> x.ticketBack(2));
        // A request waits, even if there is room.
        Due.is(-1, () -> x.ticketGiven(1));
        x.ticketSell(1, 9, 0);
        Due.is(1, () -> x.ticketBack(5));
        Due.is(6, () -> x.ticketGiven(1));
    }

    /** Thirty requests in all, also when some of them got tickets. */
    private static void mostWaiting() {
        DigHouse x = new DigHouse();
        x.ticketSlot(1);
        x.ticketSell(0, 1, 0);
        for (int q = 0; q < 30; q++) {
            x.ticketWaits(0, 1, 0);
        }
        Due.state(() -> x.ticketWaits(0, 1, 0));
        Due.state(() -> x.ticketWaits(0, 0, 0));
        Due.index(() -> x.ticketWaits(1, 0, 0));
        Due.index(() -> x.ticketWaits(0, 0, -1));
        Due.is(30, () -> x.ticketCount(2));
        Due.is(1, () -> x.ticketBack(0));
        Due.is(29, () -> x.ticketCount(2));
        Due.state(() -> x.ticketWaits(0, 1, 0));
        Due.index(() -> x.ticketGiven(30));
        Due.is(-1, () -> x.ticketGiven(29));
        DigHouse y = new DigHouse();
        y.ticketSlot(1);
        Due.argument(() -> y.ticketWaits(0, 0, 0));
        Due.argument(() -> y.ticketWaits(0, 10, 0));
        Due.is(0, () -> y.ticketWaits(0, 9, 4));
    }

    private static void pads() {
        DigHouse x = pad(60);
        Due.state(() -> x.ticketUnit(33));
        Due.state(() -> x.ticketUnit(32));
        Due.is(60, () -> x.ticketCount(4));
        Due.is(-1, () -> x.ticketRules());
        Due.is(0, () -> x.ticketCount(4));
        Due.argument(() -> x.ticketUnit(32));
        Due.argument(() -> x.ticketUnit(127));
        Due.argument(() -> x.ticketUnit(MIN));
        Due.argument(() -> x.ticketUnit(MAX));
        Due.is(1, () -> x.ticketUnit(126));
    }

    /** One ticket of three guests of kind 1; rules of two clauses, at which it costs 3 * 70 less ten of a hundred. */
    private static void reads(String text, int due) {
        DigHouse x = new DigHouse();
        x.ticketSlot(20);
        x.ticketSell(0, 3, 1);
        Due.is(2, () -> Houses.prices(x, "1=70,g3-10"));
        Due.is(189, () -> x.ticketPrice(0));
        Houses.signs(text, x::ticketUnit);
        Due.compare(text + ": " + due, text + ": " + x.ticketRules());
        Due.is(0, () -> x.ticketCount(4));
        Due.is(due < 0 ? 2 : due, () -> x.ticketCount(3));
        if (due < 0) {
            Due.is(189, () -> x.ticketPrice(0));
        }
    }

    private static void texts() {
        String[] good = {"0=0", "4=99999", "1=00001", "g1-0", "g9-100", "g00009-00100", "1=5,1=6", "0=1,1=1,2=1,3=1,4=1,g1-1,g2-2,g3-3",
            "g1-1,g1-1,g1-1,g1-1,g1-1,g1-1,g1-1,g1-1"};
        for (String text : good) {
            reads(text, text.split(",").length);
        }
        reads("", 0);
        String[] wrong = {"^,", "^5=1", "^/=1", "^G1-1", "0^", "0^-1", "0^0=1", "0=^", "0=^,", "0=^-1", "0=99999^9", "0=00000^0", "0=1^=", "0=1^;",
            "0=1,^", "0=1,^,", "0=1^g", "g^", "g^-", "g0^", "g0^-1", "g0000^0-1", "g00001^1-1", "g1^0-1", "g1^", "g1^=", "g1-^", "g1-^,", "g1-10^1",
            "g1-100^0", "g1-00100^0", "g1-20^0", "g1-1^-", "0=1,0=1,0=1,0=1,0=1,0=1,0=1,0=1^,", "0=1,0=1,0=1,0=1,0=1,0=1,0=1,0=1^,0=1",
            "0=1,0=1,0=1,0=1,0=1,0=1,0=1,^"};
        for (String text : wrong) {
            reads(text.replace("^", ""), -1 - text.indexOf('^'));
        }
        // Sixty signs that are rules, and sixty of which only the end is wrong.
        String most = "g00001-00001,g00001-00001,g00001-00001,g00001-00001,4=99999,";
        Due.is(60, () -> most.length());
        reads(most, -61);
        reads("g00001-00001,g00001-00001,g00001-00001,g00001-00001,g00001-1", 5);
        reads("g00001-00001,g00001-00001,g00001-00001,g00001-00001,g000000", -58);
    }

    /** The latest clause of a kind counts, 0 without any; rules come in place of the former ones. */
    private static void prices() {
        DigHouse x = slots();
        for (int kind = 0; kind < 5; kind++) {
            x.ticketSell(kind, 9, kind);
        }
        for (int t = 0; t < 5; t++) {
            int ticket = t;
            Due.is(0, () -> x.ticketPrice(ticket));
        }
        Houses.prices(x, "0=99999,4=1,4=2,1=5,1=0");
        int[] due = {899991, 0, 0, 0, 18};
        for (int t = 0; t < 5; t++) {
            int ticket = t;
            Due.is(due[ticket], () -> x.ticketPrice(ticket));
        }
        Houses.prices(x, "3=7");
        int[] then = {0, 0, 0, 63, 0};
        for (int t = 0; t < 5; t++) {
            int ticket = t;
            Due.is(then[ticket], () -> x.ticketPrice(ticket));
        }
        x.ticketBack(3);
        Due.is(63, () -> x.ticketPrice(3));
        Due.is(0, () -> Houses.prices(x, ""));
        Due.is(0, () -> x.ticketPrice(3));
        Due.is(0, () -> x.ticketCount(3));
    }

    /** The greatest percentage whose least group is not above the guests; what is taken off is rounded down. */
    private static void percentages() {
        DigHouse x = slots();
        for (int n = 1; n <= 9; n++) {
            x.ticketSell(n - 1 < 8 ? n - 1 : 0, n, 0);
        }
        Houses.prices(x, "0=99999,g9-100,g3-33,g3-1,g2-34,g7-50");
        int[] due = {0, 34, 34, 34, 34, 34, 50, 50, 100};
        for (int n = 1; n <= 9; n++) {
            int ticket = n - 1;
            long whole = 99999L * n;
            Due.is(whole - whole * due[ticket] / 100, () -> x.ticketPrice(ticket));
        }
        Houses.prices(x, "0=1,g1-99");
        Due.is(1, () -> x.ticketPrice(0));
        Due.is(1, () -> x.ticketPrice(1));
        Houses.prices(x, "g1-100,0=1,g1-0");
        Due.is(0, () -> x.ticketPrice(0));
        Houses.prices(x, "0=100,g9-100");
        Due.is(800, () -> x.ticketPrice(7));
        Due.is(0, () -> x.ticketPrice(8));
        // Rules without groups take nothing off any more.
        Houses.prices(x, "0=100");
        Due.is(900, () -> x.ticketPrice(8));
    }

    /** Ticket 54 of slot 1 has the code 40002, and 4 * 3 + 2 * 7 for the check. */
    private static void roundCode() {
        DigHouse x = new DigHouse();
        for (int s = 0; s < 8; s++) {
            x.ticketSlot(20);
        }
        for (int t = 0; t < 54; t++) {
            x.ticketSell(t % 7 == 1 ? 7 : t % 7, 1, 0);
        }
        Due.is(54, () -> x.ticketSell(1, 1, 0));
        int[] due = {4, 0, 0, 0, 2, 4};
        for (int i = 0; i < 6; i++) {
            int at = i;
            Due.is(due[at], () -> x.ticketCode(54, at));
        }
        Due.is(54, () -> x.ticketWhose(400024));
    }

    /** Six digits: five by the numbers of ticket and slot, and the check. */
    private static void codes() {
        DigHouse x = tickets(60);
        for (int t = 0; t < 60; t++) {
            int ticket = t;
            int five = (7919 * t + 31 * (t % 8) + 12345) % 100000;
            int[] digits = {five / 10000, five / 1000 % 10, five / 100 % 10, five / 10 % 10, five % 10};
            int sum = 3 * digits[0] + 7 * digits[1] + digits[2] + 3 * digits[3] + 7 * digits[4];
            for (int i = 0; i < 5; i++) {
                int at = i;
                Due.is(digits[at], () -> x.ticketCode(ticket, at));
            }
            Due.is((100 - sum % 10) % 10, () -> x.ticketCode(ticket, 5));
            int whole = five * 10 + (100 - sum % 10) % 10;
            Due.is(ticket, () -> x.ticketWhose(whole));
            // A code of which one digit is another one is none, or that of another ticket by all of its digits.
            for (int other = 0; other < 10; other++) {
                int wrong = five * 10 + other;
                Due.is(wrong == whole ? ticket : -1, () -> x.ticketWhose(wrong));
            }
            Due.is(-1, () -> x.ticketWhose(-whole));
            Due.is(-1, () -> x.ticketWhose(whole + 1000000));
        }
    }
}
