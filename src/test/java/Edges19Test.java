import java.util.function.Supplier;

/** The edges of promise 19: claimHeld up to claimCount, rightUnit up to rightEmbargo. */
public final class Edges19Test {
    private static final int MIN = Integer.MIN_VALUE;
    private static final int MAX = Integer.MAX_VALUE;

    public static void main(String[] args) {
        bounds();
        opened();
        quotes();
        forms();
        citations();
        counts();
        units();
        rules();
        conditions();
        leftOvers();
        mostRules();
        persons();
        embargoes();
        Due.end();
    }

    private static DigHouse claims() {
        DigHouse x = new DigHouse();
        for (int c = 0; c < 24; c++) {
            Houses.signs("source", x::claimUnit);
            x.claimSource(c, 10);
            x.claimNew();
        }
        return x;
    }

    private static DigHouse rules(int count) {
        DigHouse x = new DigHouse();
        for (int r = 0; r < count; r++) {
            int rule = r;
            Due.is(rule, () -> Houses.rule(x, "m c7 k3"));
        }
        return x;
    }

    private static DigHouse persons(int count) {
        DigHouse x = Houses.objects(10);
        for (int p = 0; p < count; p++) {
            int person = p;
            Due.is(person, () -> x.rightPerson(person * 23));
        }
        return x;
    }

    private static void bounds() {
        Supplier<DigHouse> house = Edges19Test::claims;
        Bounds.of(house, "claimHeld", 3, 50).element(0, 0, 23).argument(1, 0, 100000).hold();
        Bounds.of(house, "claimOpened", 3, 50, 1).element(0, 0, 23).argument(1, 0, 100000).element(2, 0, MAX).hold();
        Bounds.of(house, "claimQuote", 3, 4).element(0, 0, 23).element(1, 0, 6).hold();
        Bounds.of(house, "claimForm", 1).element(0, 0, 3).hold();
        Bounds.of(() -> {
            DigHouse x = claims();
            for (int form = 0; form < 4; form++) {
                Houses.signs("form", x::claimUnit);
                x.claimForm(form);
            }
            return x;
        }, "claimCite", 3, 1, 2).element(0, 0, 23).element(1, 0, 3).element(2, -1, 3).hold();
        Bounds.of(house, "claimCite", 3, 1, -1).element(0, 0, 23).element(1, 0, 3).element(2, -1, -1).hold();
        Bounds.of(house, "claimCount", 3).argument(0, 0, 4).hold();
        Bounds.of(DigHouse::new, "rightUnit", 1, 2, 3, 4).hold();
        Bounds.of(() -> rules(19), "rightRule").hold().full(() -> {
            DigHouse x = rules(20);
            x.rightUnit('s', 0, 0, 0);
            return x;
        });
        Bounds.of(() -> rules(20), "rightDrop", 3).element(0, 0, 19).hold();
        Bounds.of(() -> persons(11), "rightPerson", 7).argument(0, 0, 255).hold().full(() -> persons(12));
        Bounds.of(() -> persons(1), "rightEmbargo", 3, 50).element(0, 0, 9).argument(1, -1, 100000).hold();
        DigHouse none = new DigHouse();
        Due.element(() -> none.claimHeld(0, -1));
        Due.element(() -> none.claimOpened(0, -1, 0));
        Due.element(() -> none.claimQuote(0, 0));
        Due.element(() -> none.claimCite(0, 0, -1));
        Due.element(() -> none.rightDrop(0));
        Due.element(() -> none.rightEmbargo(0, -2));
        Due.is(0, () -> none.claimForm(3));
    }

    /** The claims that a source alone holds on a day, directly or over others. */
    private static void opened() {
        DigHouse x = claims();
        x.claimRests(0, 0, true);
        x.claimRestsOn(23, 0);
        x.claimRests(5, 0, true);
        x.claimRests(5, 23, true);
        x.claimRestsOn(6, 5);
        x.claimRestsOn(6, 0);
        int[] due = {0, 23, -1};
        for (int k = 0; k < 3; k++) {
            int at = k;
            Due.is(due[at], () -> x.claimOpened(0, 10, at));
            Due.is(-1, () -> x.claimOpened(0, 9, at));
            Due.is(-1, () -> x.claimOpened(23, 10, at));
            Due.is(-1, () -> x.claimOpened(7, 10, at));
        }
        Due.is(-1, () -> x.claimOpened(0, 10, MAX));
        x.claimWithdraw(23, 11);
        Due.is(0, () -> x.claimOpened(0, 10, 0));
        Due.is(23, () -> x.claimOpened(0, 10, 1));
        int[] then = {0, 5, 6, 23, -1};
        for (int k = 0; k < 5; k++) {
            int at = k;
            Due.is(then[at], () -> x.claimOpened(0, 11, at));
        }
        x.claimWithdraw(0, 12);
        Due.is(0, () -> x.claimOpened(0, 11, 0));
        Due.is(-1, () -> x.claimOpened(0, 12, 0));
    }

    /** 0, or the first place of the pad that does not stand there and 1; the text's end is a place, too. */
    private static void quotes() {
        DigHouse x = new DigHouse();
        Houses.signs("abcabd", x::claimUnit);
        x.claimSource(0, 0);
        Due.is(0, () -> x.claimQuote(0, 0));
        Due.is(0, () -> x.claimQuote(0, 6));
        Due.element(() -> x.claimQuote(0, 7));
        Due.element(() -> x.claimQuote(0, -1));
        Due.element(() -> x.claimQuote(1, 0));
        x.claimUnit('a');
        Due.is(0, () -> x.claimQuote(0, 0));
        Due.is(0, () -> x.claimQuote(0, 3));
        Due.is(1, () -> x.claimQuote(0, 5));
        Due.is(1, () -> x.claimQuote(0, 6));
        Houses.signs("bd", x::claimUnit);
        Due.is(0, () -> x.claimQuote(0, 3));
        Due.is(3, () -> x.claimQuote(0, 0));
        Due.is(3, () -> x.claimCount(0));
        x.claimUnit('e');
        Due.is(4, () -> x.claimQuote(0, 3));
        x.claimClear();
        x.claimUnit('d');
        Due.is(0, () -> x.claimQuote(0, 5));
        x.claimUnit('d');
        Due.is(2, () -> x.claimQuote(0, 5));
        // Texts of sixty signs, against another of sixty.
        DigHouse y = new DigHouse();
        String sixty = Houses.repeated("0123456789", 6);
        Houses.signs(sixty, y::claimUnit);
        y.claimSource(0, 0);
        Houses.signs(sixty, y::claimUnit);
        Due.is(0, () -> y.claimQuote(0, 0));
        Due.is(51, () -> y.claimQuote(0, 10));
        Due.is(1, () -> y.claimQuote(0, 60));
        Due.is(1, () -> y.claimQuote(0, 59));
        Due.element(() -> y.claimQuote(0, 61));
        // The next source's text is not read as this one's.
        y.claimSource(1, 0);
        y.claimClear();
        Houses.signs("90", y::claimUnit);
        Due.is(2, () -> y.claimQuote(0, 59));
    }

    private static void forms() {
        DigHouse x = claims();
        Due.is(0, () -> x.claimForm(0));
        Houses.signs(Houses.repeated("0", 60), x::claimUnit);
        Due.element(() -> x.claimForm(4));
        Due.is(60, () -> x.claimCount(0));
        Due.is(60, () -> x.claimForm(3));
        Due.is(0, () -> x.claimCount(0));
        Due.is(60, () -> x.claimCite(0, 3, -1));
        Due.is('0', () -> x.claimCite(0, 3, 59));
        Due.element(() -> x.claimCite(0, 3, 60));
        Due.is(0, () -> x.claimCite(0, 2, -1));
        x.claimUnit(127);
        x.claimUnit(1);
        Due.is(2, () -> x.claimForm(3));
        Due.is(2, () -> x.claimCite(0, 3, -1));
        Due.is(127, () -> x.claimCite(0, 3, 0));
        Due.is(1, () -> x.claimCite(0, 3, 1));
    }

    private static void cites(DigHouse x, int source, int form, String due) {
        Due.is(due.length(), () -> x.claimCite(source, form, -1));
        for (int i = 0; i < due.length(); i++) {
            int at = i;
            Due.is(due.charAt(i), () -> x.claimCite(source, form, at));
        }
        Due.element(() -> x.claimCite(source, form, due.length()));
        Due.element(() -> x.claimCite(source, form, MAX));
        Due.element(() -> x.claimCite(source, form, -2));
        Due.element(() -> x.claimCite(source, form, MIN));
    }

    private static void citations() {
        DigHouse x = new DigHouse();
        x.claimSource(0, 0);
        for (int s = 1; s < 23; s++) {
            x.claimSource(5, 7);
        }
        x.claimSource(25, 100000);
        Houses.signs("#@$\"!%?A", x::claimUnit);
        x.claimForm(0);
        cites(x, 0, 0, "00a\"!%?A");
        cites(x, 23, 0, "23100000z\"!%?A");
        cites(x, 9, 0, "97f\"!%?A");
        cites(x, 0, 1, "");
        // Sixty days of six digits each.
        Houses.signs(Houses.repeated("@", 60), x::claimUnit);
        x.claimForm(3);
        cites(x, 23, 3, Houses.repeated("100000", 60));
    }

    private static void counts() {
        DigHouse x = claims();
        x.claimUnit(1);
        x.claimOpinion(0, 0, 0, 0, 0);
        x.claimOpinion(0, 1, 0, 0, 0);
        x.claimRestsOn(0, 1);
        x.claimRestsOn(0, 23);
        x.claimRestsOn(1, 23);
        x.claimRests(0, 0, true);
        int[] due = {1, 24, 24, 2, 3};
        for (int what = 0; what < 5; what++) {
            int w = what;
            Due.is(due[w], () -> x.claimCount(w));
        }
    }

    /** Up to forty signs of four numbers, the lowest bits first; any sign but 0 is one. */
    private static void units() {
        DigHouse x = new DigHouse();
        Due.is(0, () -> x.rightUnit(0, 0, 0, 0));
        Due.is(16, () -> x.rightUnit(MAX, -1, 0x01010101, MIN | 0x7f7f7f));
        Due.is(17, () -> x.rightUnit(0, 0, 0, MIN));
        Due.is(18, () -> x.rightUnit(0, 0, 1, 0));
        Due.is(19, () -> x.rightUnit(0, 0x100, 0, 0));
        Due.is(20, () -> x.rightUnit(0x10000, 0, 0, 0));
        Due.is(36, () -> x.rightUnit(-1, -1, -1, -1));
        Due.state(() -> x.rightUnit(-1, 1, 0, 0));
        Due.is(36, () -> x.rightCount(0));
        Due.is(39, () -> x.rightUnit(0x20, 0x2000, 0, 0x20000000));
        Due.state(() -> x.rightUnit(1, 0, 0, 1));
        Due.is(40, () -> x.rightUnit(0, 0, 0, 1));
        Due.is(40, () -> x.rightUnit(0, 0, 0, 0));
        Due.state(() -> x.rightUnit(0, MIN, 0, 0));
        Due.is(-1, () -> x.rightRule());
        Due.is(0, () -> x.rightCount(0));
        // Each sign of each number counts once, wherever it stands.
        for (int place = 0; place < 16; place++) {
            for (int sign : new int[] {1, 0x80, 0xff}) {
                int[] four = new int[4];
                four[place / 4] = sign << 8 * (place % 4);
                DigHouse z = new DigHouse();
                Due.is(16, () -> z.rightUnit(-1, -1, -1, -1));
                Due.is(32, () -> z.rightUnit(-1, -1, -1, -1));
                Due.is(39, () -> z.rightUnit(-1, 0x01010100, 0, 0));
                Due.is(40, () -> z.rightUnit(four[0], four[1], four[2], four[3]));
                Due.state(() -> z.rightUnit(four[0], four[1], four[2], four[3]));
                Due.is(40, () -> z.rightCount(0));
            }
        }
        // In their order: "s r1 !p2".
        DigHouse y = new DigHouse();
        y.rightUnit('s' | ' ' << 16, 'r' << 24, '1' | ' ' << 8 | '!' << 16 | 'p' << 24, '2' << 8);
        Due.is(0, () -> y.rightRule());
    }

    private static void reads(String text, int due) {
        DigHouse x = rules(1);
        for (char c : text.toCharArray()) {
            x.rightUnit(0, c, 0, 0);
        }
        Due.compare(text + ": " + due, text + ": " + x.rightRule());
        Due.is(0, () -> x.rightCount(0));
        Due.is(due < 0 ? 1 : 2, () -> x.rightCount(1));
        Due.is(due < 0 ? 1 : 2, () -> x.rightCount(2));
    }

    private static void rules() {
        String[] good = {"s", "m", "a", "s r0", "s r7", "m k0", "m k3", "a f0", "a f5", "s p0", "s p3", "s c0", "s c7", "s g", "s !g",
            "s !r7 !k3 !f5 !p3 !c7 !g r0 k0 f0 p0 g", "s r1 r1 r1 r1 r1 r1 r1 r1 r1 r1 r1 r1 r1", "s g g g g g g g g g g g g g g g g g g !g"};
        for (String text : good) {
            reads(text, 1);
        }
        String[] wrong = {"^", "^S", "^ s", "^r0", "s^s", "s^r0", "s^!g", "s ^", "s ^ ", "s ^ g", "s !^", "s !^!g", "s !^ g",
            "s ^x", "s r^", "s r^8", "s r^/", "s r^ ", "s r^x", "s k^4", "s k^:", "s f^6", "s p^4", "s c^8", "s r0^0", "s r0^,", "s r0 ^", "s g^0",
            "s g^g", "s !k^4", "s ^1", "m k3 k^", "a c7 !^", "s ^R0"};
        for (String text : wrong) {
            reads(text.replace("^", ""), -1 - text.indexOf('^'));
        }
        // Of forty signs: unfinished ones end at 40, and so does a whole one.
        String most = "s r1 r1 r1 r1 r1 r1 r1 r1 r1 r1 r1 r1";
        Due.is(37, () -> most.length());
        reads(most + " r1", 1);
        reads(most + " !g", 1);
        reads(most + " !r", -41);
        reads(most + " g ", -41);
        reads(most + "  g", -39);
        reads(most + " r8", -40);
    }

    /** Each condition at the ends of its numbers, and turned round. */
    private static void conditions() {
        // A record of kind 3 and community 7, one of kind 0 and none; persons with role 7 and with role 0.
        String[][] due = {{"r7", "1100"}, {"r0", "0011"}, {"!r7", "0011"}, {"!r0", "1100"}, {"k3", "1010"}, {"k0", "0101"}, {"!k3", "0101"},
            {"c7", "1010"}, {"c0", "0000"}, {"!c7", "0101"}, {"!c0", "1111"}, {"g", "0010"}, {"!g", "1101"}, {"r7 r0", "0000"}, {"!r7 !r0", "0000"},
            {"k3 k0", "0000"}, {"!k3 !k0", "0000"}, {"k3 !k0", "1010"}, {"g !g", "0000"}, {"r7 c7", "1000"}};
        for (String[] row : due) {
            DigHouse x = Houses.contexts(1);
            x.find(0, 3, 7);
            x.find(0, 0, -1);
            x.object(0, 1, 1, 1, 1);
            x.object(1, 1, 1, 1, 1);
            x.rightPerson(128);
            x.rightPerson(1);
            x.rightAgreement(1, 0, 0, 0);
            Houses.rule(x, "s " + row[0]);
            StringBuilder got = new StringBuilder();
            for (int person = 0; person < 2; person++) {
                for (int record = 0; record < 2; record++) {
                    got.append(x.look(person, record, 0, 0) / 2);
                }
            }
            Due.compare(row[0] + " " + row[1], row[0] + " " + got);
        }
        for (int field = 0; field < 6; field++) {
            for (int purpose = 0; purpose < 4; purpose++) {
                DigHouse x = Houses.objects(1);
                x.rightPerson(0);
                Houses.rule(x, "m f" + field + " p" + purpose);
                int f = field;
                int p = purpose;
                Due.is(1, () -> x.look(0, 0, f, p));
                Due.is(0, () -> x.look(0, 0, (f + 1) % 6, p));
                Due.is(0, () -> x.look(0, 0, f, (p + 1) % 4));
                DigHouse y = Houses.objects(1);
                y.rightPerson(0);
                Houses.rule(y, "s !f" + field + " !p" + purpose);
                Due.is(0, () -> y.look(0, 0, f, (p + 1) % 4));
                Due.is(0, () -> y.look(0, 0, (f + 1) % 6, p));
                Due.is(2, () -> y.look(0, 0, (f + 1) % 6, (p + 1) % 4));
            }
        }
    }

    /** A text that is no rule leaves nothing behind for the next one. */
    private static void leftOvers() {
        String[] wrong = {"a r3 !r0 x", "s k3 f5 p3 c7 g x", "m !k0 !f0 !p0 !c0 !g ", "a r0 r1 r2 r8"};
        for (String text : wrong) {
            DigHouse x = Houses.objects(1);
            x.rightPerson(1);
            Due.compare("true", String.valueOf(Houses.rule(x, text) < 0));
            Due.is(0, () -> Houses.rule(x, "s"));
            Due.is(2, () -> x.look(0, 0, 0, 0));
        }
    }

    /** Twenty rules; dropped ones keep their numbers. Absent ahead of all, else the last that suits. */
    private static void mostRules() {
        DigHouse x = Houses.objects(1);
        x.rightPerson(0);
        for (int r = 0; r < 19; r++) {
            Houses.rule(x, r % 2 == 0 ? "m" : "s");
        }
        Due.is(1, () -> x.look(0, 0, 0, 0));
        Due.is(19, () -> Houses.rule(x, "a"));
        Due.is(0, () -> x.look(0, 0, 0, 0));
        x.rightUnit('s', 0, 0, 0);
        Due.state(() -> x.rightRule());
        Due.is(1, () -> x.rightCount(0));
        Due.yes(() -> x.rightDrop(19));
        Due.no(() -> x.rightDrop(19));
        Due.is(1, () -> x.look(0, 0, 0, 0));
        Due.yes(() -> x.rightDrop(18));
        Due.is(2, () -> x.look(0, 0, 0, 0));
        Due.is(20, () -> x.rightCount(1));
        Due.is(18, () -> x.rightCount(2));
        Due.state(() -> x.rightRule());
        for (int r = 0; r < 18; r++) {
            int rule = r;
            Due.yes(() -> x.rightDrop(rule));
        }
        Due.is(0, () -> x.look(0, 0, 0, 0));
        Due.is(0, () -> x.rightCount(2));
        Due.element(() -> x.rightDrop(20));
        // Absent rules win from the first place, too.
        DigHouse y = Houses.objects(1);
        y.rightPerson(0);
        Houses.rule(y, "a");
        Houses.rule(y, "s");
        Due.is(0, () -> y.look(0, 0, 0, 0));
    }

    private static void persons() {
        DigHouse x = new DigHouse();
        Due.argument(() -> x.rightPerson(256));
        Due.argument(() -> x.rightPerson(-1));
        Due.argument(() -> x.rightPerson(MIN));
        for (int p = 0; p < 12; p++) {
            int person = p;
            Due.is(person, () -> x.rightPerson(person == 11 ? 255 : 0));
        }
        Due.state(() -> x.rightPerson(0));
        Due.argument(() -> x.rightPerson(256));
        Due.is(12, () -> x.rightCount(3));
    }

    /** An embargo holds up to its day, with it, but for role 7. */
    private static void embargoes() {
        DigHouse x = Houses.objects(2);
        x.rightPerson(127);
        x.rightPerson(128);
        Houses.rule(x, "s");
        Due.is(-1, () -> x.rightEmbargo(0, 1));
        Due.is(0, () -> x.look(0, 0, 0, 0));
        Due.is(2, () -> x.look(1, 0, 0, 0));
        Due.is(2, () -> x.look(0, 1, 0, 0));
        x.pass(1);
        Due.is(0, () -> x.look(0, 0, 0, 0));
        x.pass(1);
        Due.is(2, () -> x.look(0, 0, 0, 0));
        Due.is(1, () -> x.rightEmbargo(0, 2));
        Due.is(0, () -> x.look(0, 0, 0, 0));
        Due.is(2, () -> x.rightEmbargo(0, -1));
        Due.is(2, () -> x.look(0, 0, 0, 0));
        Due.is(-1, () -> x.rightEmbargo(0, 0));
        Due.is(0, () -> x.rightEmbargo(0, 100000));
        Due.is(100000, () -> x.rightEmbargo(0, 100000));
        DigHouse y = Houses.objects(1);
        y.rightPerson(0);
        Houses.rule(y, "s");
        y.rightEmbargo(0, 0);
        Due.is(0, () -> y.look(0, 0, 0, 0));
        y.pass(1);
        Due.is(2, () -> y.look(0, 0, 0, 0));
    }
}
