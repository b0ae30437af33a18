import java.util.function.Supplier;

/** The edges of promise 13: placeCount, termUnit up to termRequest. */
public final class Edges13Test {
    private static final int MIN = Integer.MIN_VALUE;
    private static final int MAX = Integer.MAX_VALUE;

    public static void main(String[] args) {
        bounds();
        counts();
        pads();
        texts();
        manyContracts();
        written();
        fails();
        values();
        loansAndShields();
        looked();
        openTerms();
        toldAgain();
        extensions();
        requests();
        Due.end();
    }

    private static DigHouse pad(int signs) {
        DigHouse x = Houses.objects(1);
        Houses.signs(Houses.repeated("!", signs), x::termUnit);
        return x;
    }

    private static DigHouse requests(int count) {
        DigHouse x = new DigHouse();
        for (int r = 0; r < count; r++) {
            int request = r;
            Due.is(request, () -> x.termRequest(request % 16, 0, 100000));
        }
        return x;
    }

    private static void bounds() {
        Supplier<DigHouse> loans = () -> Houses.loans(20);
        Bounds.of(Houses::museum, "placeCount", 3).argument(0, 0, 5).hold();
        Bounds.of(() -> pad(79), "termUnit", 50).argument(0, 33, 126).hold().full(() -> pad(80));
        Bounds.of(() -> pad(0), "termUnit", 50).argument(0, 33, 126).hold();
        Bounds.of(() -> Houses.contracts(1, 7, "a<1"), "termRead").hold().full(() -> {
            DigHouse x = Houses.contracts(1, 8, "a<1");
            x.termUnit('a');
            return x;
        });
        Supplier<DigHouse> contracts = () -> Houses.contracts(1, 8, "a<1");
        Bounds.of(contracts, "termMany", 3).index(0, 0, 7).hold();
        Bounds.of(contracts, "termWritten", 3, 0).index(0, 0, 7).index(1, -1, 3).hold();
        Bounds.of(DigHouse::new, "termFails", 3, 50, 60).index(0, 0, 7).argument(1, 0, 60).argument(2, 50, 2400000).hold();
        Bounds.of(DigHouse::new, "termFails", 3, 2400000, 2400000).index(0, 0, 7).argument(1, 0, 2400000).argument(2, 2400000, 2400000).hold();
        Bounds.of(loans, "termShield", 3, true).index(0, 0, 19).hold();
        Bounds.of(loans, "termOpen", 3, 50, 0).index(0, 0, 19).argument(1, 0, 2400000).index(2, 0, MAX).hold();
        Bounds.of(loans, "termTold", 3, -1, 0).index(0, 0, 19).index(1, -1, -1).index(2, 0, 1).hold();
        Bounds.of(loans, "termExtend", 3, 50, 2).index(0, 0, 19).argument(1, 0, 100000).argument(2, 0, 100000).hold();
        Bounds.of(() -> requests(29), "termRequest", 3, 50, 60).index(0, 0, 15).argument(1, 0, 60).argument(2, 50, 100000).hold()
            .full(() -> requests(30));
        DigHouse none = new DigHouse();
        Due.index(() -> none.termMany(0));
        Due.index(() -> none.termWritten(0, -1));
        Due.index(() -> none.termShield(0, false));
        Due.index(() -> none.termOpen(0, -1, 0));
        Due.index(() -> none.termTold(0, -1, 0));
        Due.index(() -> none.termExtend(0, -1, 0));
    }

    private static void counts() {
        DigHouse x = Houses.objects(2);
        int[] due = {0, 2, 0, 0, 0, 0};
        for (int what = 0; what < 6; what++) {
            int w = what;
            Due.is(due[w], () -> x.placeCount(w));
        }
        x.place(-1, 1000);
        x.place(-1, 1000);
        x.placeDoor(0, 1, 1, 1);
        x.placePlanned(0, 0, 0, 0);
        x.hour(0, 0);
        x.carry(0, 0, 0, 0);
        x.carry(1, 0, 0, 0);
        x.lose(1);
        int[] then = {2, 2, 1, 1, 1, 3};
        for (int what = 0; what < 6; what++) {
            int w = what;
            Due.is(then[w], () -> x.placeCount(w));
        }
    }

    /** Eighty signs; the sign is asked behind that. */
    private static void pads() {
        DigHouse x = new DigHouse();
        for (int i = 1; i <= 80; i++) {
            int count = i;
            Due.is(count, () -> x.termUnit(33 + count % 94));
        }
        Due.state(() -> x.termUnit(33));
        Due.state(() -> x.termUnit(32));
        Due.state(() -> x.termUnit(MAX));
        Due.is(80, () -> x.termCount(0));
        Due.is(-1, () -> x.termRead());
        Due.is(0, () -> x.termCount(0));
        Due.argument(() -> x.termUnit(32));
        Due.argument(() -> x.termUnit(127));
        Due.argument(() -> x.termUnit(MIN));
        Due.is(1, () -> x.termUnit(126));
    }

    private static void reads(String text, int due) {
        DigHouse x = new DigHouse();
        Houses.contract(x, "z<1;z<2");
        Houses.signs(text, x::termUnit);
        Due.compare(text + ": " + due, text + ": " + x.termRead());
        Due.is(0, () -> x.termCount(0));
        Due.is(due < 0 ? 1 : 2, () -> x.termCount(1));
    }

    private static void texts() {
        String[] good = {"a<0", "h>999999", "y=000000", "z=1", "!!!a<1", "!(!!!(!a<1))", "(((((a<1)))))", "(a<1)&(b<1)", "a<1|b<1&c<1;d<1",
            "a<1;b<1;c<1;d<1;e<1;f<1", "(((a<1|(b>2&!!!(!c=3)))))", "a<1&b<1&c<1&d<1&e<1&f<1&g<1&h<1&y<1&z<1",
            "(((((a<1)))))&(((((a<1)))))"};
        for (String text : good) {
            reads(text, 1);
        }
        String[] wrong = {"^", "^i<1", "^x<1", "^A<1", "^`<1", "a^", "a^1", "a^;", "a^?1", "a^b", "a<^", "a<^;", "a<^-1",
            "a<^<1", "a<123456^7", "a<000000^0", "a<1^a", "a<1^!", "a<1^(", "a<1^)", "a<1;^", "a<1;^;", "a<1|^", "a<1&^", "a<1&^)", "a<1|^|",
            "!^", "!!!^!", "!!!^!a<1", "!^;", "!^)", "(^", "(^)", "(!^)", "(((((^(", "(((((^(a<1))))))", "(a<1^", "(a<1^;", "(a<1)^)",
            "((a<1)^", "(a<1)^a", "(a<1)^(", "(a<1)^!", "a<1;b<1;c<1;d<1;e<1;f<1^;", "a<1;b<1;c<1;d<1;e<1;f<1^;g<1", "(a<1^;b<1)", "a<1^,",
            "!!!(!!!^!a<1)", "!!!(!!!a<1^"};
        for (String text : wrong) {
            reads(text.replace("^", ""), -1 - text.indexOf('^'));
        }
        // Eighty signs that are a text, and eighty of which only the end is wrong.
        String most = Houses.repeated("a<1&", 19) + "a<12";
        Due.is(80, () -> most.length());
        reads(most, 1);
        reads(Houses.repeated("a<1&", 20), -81);
        reads(Houses.repeated("a<1|", 19) + "(a<1", -81);
        reads(Houses.repeated("a<1|", 19) + "!!a<", -81);
    }

    private static void manyContracts() {
        DigHouse x = new DigHouse();
        for (int c = 0; c < 8; c++) {
            int contract = c;
            int terms = c % 6 + 1;
            Due.is(contract, () -> Houses.contract(x, Houses.repeated("a<1;", terms - 1) + "a<1"));
            Due.is(terms, () -> x.termMany(contract));
        }
        x.termUnit('a');
        Due.state(() -> x.termRead());
        Due.is(1, () -> x.termCount(0));
        Due.is(8, () -> x.termCount(1));
        Due.index(() -> x.termMany(8));
    }

    private static void writes(String text, String due) {
        DigHouse x = new DigHouse();
        int contract = Houses.contract(x, text);
        StringBuilder got = new StringBuilder();
        for (int i = 0; i < x.termWritten(contract, -1); i++) {
            got.append((char) x.termWritten(contract, i));
        }
        Due.compare(due, got.toString());
        Due.index(() -> x.termWritten(contract, due.length()));
        Due.index(() -> x.termWritten(contract, MAX));
        Due.index(() -> x.termWritten(contract, -2));
        Due.index(() -> x.termWritten(contract, MIN));
        Due.index(() -> x.termWritten(contract + 1, 0));
    }

    private static void written() {
        writes("a<0", "a<0;");
        writes("a<000000", "a<0;");
        writes("a<000010;b=999999", "a<10;b=999999;");
        writes("(((((a<1)))))", "a<1;");
        writes("!!!(a<1)", "!!!a<1;");
        writes("!(!!!(!a<1))", "!!!!!a<1;");
        writes("a<1|b<2", "(a<1|b<2);");
        writes("a<1;b<1|c<2", "a<1;(b<1|c<2);");
        writes("a<1;b<1&c<2", "a<1;(b<1&c<2);");
        writes("a<1|b<1;c<2;d<1&e<1", "(a<1|b<1);c<2;(d<1&e<1);");
        writes("a<1|b<1&c<2|d<1", "(a<1|(b<1&c<2)|d<1);");
        writes("a<1&b<2", "(a<1&b<2);");
        writes("a<1|b<2&c<3", "(a<1|(b<2&c<3));");
        writes("(a<1|b<2)&c<3", "((a<1|b<2)&c<3);");
        writes("(a<1&b<2)|(c<3)", "((a<1&b<2)|c<3);");
        writes("((a<1)&(b<2));!(c<3|d<4)", "(a<1&b<2);!(c<3|d<4);");
        writes("(a<1|b<2)|c<3", "((a<1|b<2)|c<3);");
        writes("(a<1&b<2)&c<3", "((a<1&b<2)&c<3);");
        writes("a<1;b<1;c<1;d<1;e<1;z=01", "a<1;b<1;c<1;d<1;e<1;z=1;");
        writes(Houses.repeated("a<1|", 19) + "a<12", "(" + Houses.repeated("a<1|", 19) + "a<12);");
    }

    /** A house with one room, one loan of all its days, and hours run at 20000 degrees: input 0 is 80000. */
    private static DigHouse fed(String text, int hours) {
        DigHouse x = Houses.contracts(1, 1, text);
        x.lend(0, 0, 0, 100000);
        x.place(-1, 1000);
        x.room(0);
        for (int h = 0; h < hours; h++) {
            x.hour(20000, 10000);
        }
        return x;
    }

    /** An input fails from an hour to another one, with both, as told latest. */
    private static void fails() {
        DigHouse x = fed("a=80000", 1);
        Due.is(0, () -> x.broken(0));
        x.termFails(0, 5, 7);
        int[][] due = {{0, -1}, {4, -1}, {5, 0}, {6, 0}, {7, 0}, {8, -1}, {2400000, -1}};
        for (int[] row : due) {
            Due.is(row[1], () -> x.termOpen(0, row[0], 0));
            Due.is(-1, () -> x.termOpen(0, row[0], 1));
        }
        x.termFails(0, 8, 8);
        int[][] then = {{5, -1}, {7, -1}, {8, 0}, {9, -1}};
        for (int[] row : then) {
            Due.is(row[1], () -> x.termOpen(0, row[0], 0));
        }
        x.termFails(0, 2400000, 2400000);
        Due.is(0, () -> x.termOpen(0, 2400000, 0));
        Due.is(-1, () -> x.termOpen(0, 2399999, 0));
        x.termFails(0, 0, 0);
        Due.is(0, () -> x.termOpen(0, 0, 0));
        Due.is(-1, () -> x.termOpen(0, 1, 0));
        x.termFails(0, 0, 2400000);
        Due.is(0, () -> x.termOpen(0, 2400000, 0));
        x.termFails(7, 3, 3);
        Due.is(0, () -> x.termOpen(0, 2400000, 0));
        Due.argument(() -> x.termFails(0, 5, 4));
        Due.argument(() -> x.termFails(0, 2400001, 2400001));
        Due.index(() -> x.termFails(8, 5, 4));
        for (int hour : new int[] {0, 4, 5, 7, 2400000}) {
            Due.is(0, () -> x.termOpen(0, hour, 0));
        }
    }

    /** The value of the last row that is not above the hour; open ahead of the first one. Comparisons at their edges. */
    private static void values() {
        DigHouse x = Houses.contracts(1, 8, "a<80000;a<80001;a=80000;a>80000;a>79999;b=10000");
        x.lend(0, 0, 0, 100000);
        x.place(-1, 1000);
        x.hour(0, 0);
        Due.is(0, () -> x.broken(0));
        Due.is(0, () -> x.termOpen(0, 0, 0));
        Due.is(5, () -> x.termOpen(0, 0, 5));
        Due.is(-1, () -> x.termOpen(0, 0, 6));
        x.room(0);
        x.hour(20000, 10000);
        Due.is(1, () -> x.broken(0));
        Due.is(0, () -> x.termOpen(0, 0, 0));
        Due.is(-1, () -> x.termOpen(0, 1, 0));
        Due.is(2, () -> x.termTold(0, -1, 0));
        Due.is(0, () -> x.termTold(0, 0, 1));
        Due.is(3, () -> x.termTold(0, 1, 1));
        Due.is(2, () -> x.termCount(4));
        // The inputs of the last room are g and h; those of rooms that are not there have no rows.
        DigHouse y = Houses.contracts(1, 1, "g=80000;h=10000;a=80000");
        y.lend(0, 0, 0, 0);
        for (int p = 0; p < 4; p++) {
            y.place(-1, 1);
        }
        y.room(0);
        y.room(1);
        y.room(2);
        y.hour(20000, 10000);
        Due.is(0, () -> y.termOpen(0, 0, 0));
        Due.is(1, () -> y.termOpen(0, 0, 1));
        Due.is(-1, () -> y.termOpen(0, 0, 2));
        y.room(3);
        y.hour(20000, 10000);
        Due.is(-1, () -> y.termOpen(0, 1, 0));
        Due.is(0, () -> y.broken(0));
        Due.is(14, () -> y.termCount(4));
    }

    /** "y" is the day's number behind the first day, "z" the shield, at any hour. */
    private static void loansAndShields() {
        DigHouse x = Houses.contracts(1, 1, "y=0;y<1;y>0;z=0;z=1;y=99999");
        x.lend(0, 0, 1, 100000);
        Due.index(() -> x.termShield(1, true));
        Due.no(() -> x.termShield(0, false));
        x.pass(1);
        Due.is(1, () -> x.hour(0, 0));
        Due.is(3, () -> x.broken(0));
        Due.yes(() -> x.termShield(0, true));
        Due.no(() -> x.termShield(0, true));
        x.hour(0, 0);
        Due.is(3, () -> x.broken(0));
        Due.compare("2 4 5 3", told(x));
        Due.yes(() -> x.termShield(0, false));
        x.hour(0, 0);
        Due.compare("2 4 5 3 4", told(x));
        x.pass(1);
        x.hour(0, 0);
        Due.is(1, () -> x.broken(0));
        Due.compare("2 4 5 3 4 0 1", told(x));
        Due.is(-1, () -> x.termOpen(0, 0, 0));
        Due.is(-1, () -> x.termOpen(0, 2400000, 0));
    }

    private static String told(DigHouse x) {
        StringBuilder all = new StringBuilder();
        for (int k = 0; k < x.termTold(0, -1, 0); k++) {
            all.append(k == 0 ? "" : " ").append(x.termTold(0, k, 1));
        }
        return all.toString();
    }

    /** Parts till one is true, bits till one is false: what is not looked at opens nothing. */
    private static void looked() {
        String[][] due = {
            {"y=0|h=0", "good"}, {"h=0|y=0", "open"}, {"y=1&h=0", "broken"}, {"y=0&h=0", "open"}, {"h=0&y=1", "open"},
            {"y=1|y=0&h=0", "open"}, {"y=1&h=0|y=0", "good"}, {"!(y=0|h=0)", "broken"}, {"!(y=1&h=0)", "good"}, {"!h=0", "open"},
            {"(y=0|h=0)&y=0|h=0", "good"}, {"(y=1&h=0)|(y=1|y=0)", "good"}, {"!!y=1|h=0", "open"}, {"!!!y=1|h=0", "good"},
            {"(y=0|(h=0|(h=0&(h=0|(h=0)))))", "good"}, {"y=1&(h=0|(h=0&(h=0|(h=0|(h=0)))))", "broken"}, {"(((((h=0)))))", "open"}, {"(((((y=0)))))", "good"}, {"(((((y=1)))))", "broken"}, {"!(!(!(!(!(y=0)))))", "broken"},
            {"y=1&!(h=0|y=0)|y=0", "good"}, {"y=0&(y=1|y=0)&y=1", "broken"},
        };
        for (String[] row : due) {
            DigHouse x = Houses.contracts(1, 1, row[0]);
            x.lend(0, 0, 0, 0);
            x.hour(0, 0);
            String got = x.termOpen(0, 0, 0) == 0 ? "open" : x.broken(0) == 1 ? "broken" : "good";
            Due.compare(row[0] + " " + row[1], row[0] + " " + got);
            Due.is(row[1].equals("broken") ? 1 : 0, () -> x.broken(0));
        }
    }

    /** Open terms can be asked at any hour, whether the loan is out then or not; nothing is told. */
    private static void openTerms() {
        DigHouse x = Houses.contracts(1, 1, "y=0;a=1;b=1;y=1;z=0&h<9;g=0");
        x.lend(0, 0, 5, 5);
        int[] due = {1, 2, 4, 5, -1, -1};
        for (int hour : new int[] {0, 119, 120, 143, 144, 2400000}) {
            for (int k = 0; k < 6; k++) {
                int at = k;
                Due.is(due[k], () -> x.termOpen(0, hour, at));
            }
        }
        Due.is(-1, () -> x.termOpen(0, 0, MAX));
        Due.index(() -> x.termOpen(0, 0, -1));
        Due.index(() -> x.termOpen(0, -1, -1));
        Due.index(() -> x.termOpen(1, -1, 0));
        Due.argument(() -> x.termOpen(0, 2400001, 0));
        Due.is(0, () -> x.termTold(0, -1, 0));
        Due.is(-1, () -> x.broken(0));
    }

    /** A broken term is told again only when it was good behind that; open does not make it good. */
    private static void toldAgain() {
        DigHouse x = fed("a=80001", 2);
        Due.compare("0", told(x));
        x.termFails(0, 0, 2400000);
        x.hour(20000, 10000);
        Due.is(0, () -> x.broken(0));
        x.termFails(0, 0, 0);
        x.hour(20000, 10000);
        Due.is(1, () -> x.broken(0));
        Due.compare("0", told(x));
        x.hour(20010, 10000);
        Due.is(20001, () -> x.roomDegrees(0));
        Due.is(0, () -> x.broken(0));
        x.hour(20000, 10000);
        Due.is(1, () -> x.broken(0));
        Due.compare("0 0", told(x));
        Due.is(0, () -> x.termTold(0, 0, 0));
        Due.is(5, () -> x.termTold(0, 1, 0));
        // Hours at which the loan is not out are not asked: it stays told.
        DigHouse y = Houses.contracts(1, 1, "z=1");
        y.lend(0, 0, 0, 0);
        y.hour(0, 0);
        y.pass(2);
        y.termShield(0, true);
        y.hour(0, 0);
        y.termShield(0, false);
        Due.is(-1, () -> y.broken(0));
        Due.is(1, () -> y.termTold(0, -1, 0));
    }

    /** 1: told behind its end; 2: not longer; 3: a clash; else it ends on the other day. */
    private static void extensions() {
        DigHouse x = Houses.contracts(2, 1, "z<2");
        x.lend(0, 0, 5, 10);
        x.lend(0, 0, 20, 30);
        x.lend(0, 1, 11, 100000);
        Due.is(1, () -> x.termExtend(0, 0, 11));
        Due.is(1, () -> x.termExtend(0, 100000, 100000));
        Due.is(2, () -> x.termExtend(0, 10, 10));
        Due.is(2, () -> x.termExtend(0, 0, 0));
        Due.is(3, () -> x.termExtend(0, 20, 10));
        Due.is(3, () -> x.termExtend(0, 100000, 0));
        Due.is(6, () -> x.termDays(0));
        Due.is(0, () -> x.termExtend(0, 11, 10));
        Due.is(7, () -> x.termDays(0));
        Due.is(0, () -> x.termExtend(0, 19, 11));
        Due.is(15, () -> x.termDays(0));
        Due.is(2, () -> x.termExtend(0, 19, 0));
        Due.is(1, () -> x.termExtend(0, 19, 20));
        Due.is(0, () -> x.termExtend(1, 100000, 30));
        Due.is(99981, () -> x.termDays(1));
        Due.is(2, () -> x.termExtend(1, 100000, 100000));
        Due.argument(() -> x.termExtend(0, -1, 0));
        Due.argument(() -> x.termExtend(0, 100001, 0));
        Due.argument(() -> x.termExtend(0, 0, 100001));
        Due.index(() -> x.termExtend(3, -1, -1));
        // Requests don't matter, and loans ahead of it don't clash.
        x.termRequest(1, 0, 10);
        Due.is(3, () -> x.lend(0, 1, 0, 5));
        Due.is(0, () -> x.termExtend(3, 10, 5));
        Due.is(3, () -> x.termExtend(3, 11, 10));
    }

    /** Things 0 to 15, made or not; the state is asked ahead of days. */
    private static void requests() {
        DigHouse x = requests(30);
        Due.state(() -> x.termRequest(0, 1, 0));
        Due.state(() -> x.termRequest(15, -1, 100001));
        Due.index(() -> x.termRequest(16, 0, 0));
        Due.index(() -> x.termRequest(-1, 0, 0));
        Due.is(30, () -> x.termCount(3));
        DigHouse y = new DigHouse();
        Due.argument(() -> y.termRequest(0, 6, 5));
        Due.is(0, () -> y.termRequest(15, 100000, 100000));
        Due.is(1, () -> y.termRequest(15, 0, 0));
    }
}
