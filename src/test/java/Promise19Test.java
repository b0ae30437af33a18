/** claimHeld, claimOpened, claimQuote, claimForm, claimCite, claimCount; rightUnit, rightRule, rightDrop, rightPerson, rightEmbargo. */
public final class Promise19Test {
    public static void main(String[] args) {
        opened();
        quotes();
        citations();
        longCitation();
        pads();
        rules();
        mostRules();
        fullPad();
        persons();
        embargoes();
        Due.end();
    }

    private static void opened() {
        DigHouse x = new DigHouse();
        x.claimSource(0, 0);
        x.claimSource(0, 5);
        for (int c = 0; c < 4; c++) {
            x.claimNew();
        }
        x.claimRests(0, 0, true);
        x.claimRests(1, 0, true);
        x.claimRests(1, 1, true);
        x.claimRestsOn(2, 0);
        x.claimRestsOn(3, 1);
        Due.yes(() -> x.claimHeld(0, 0));
        Due.yes(() -> x.claimHeld(3, 0));
        claims(x, 0, 0, 0, 1, 2, 3);
        claims(x, 0, 5, 0, 2);
        claims(x, 1, 5);
        x.claimWithdraw(0, 7);
        claims(x, 1, 7, 1, 3);
        claims(x, 0, 7);
        Due.element(() -> x.claimOpened(2, -1, 0));
        Due.element(() -> x.claimOpened(0, -1, -1));
        Due.argument(() -> x.claimOpened(0, -1, 0));
        Due.argument(() -> x.claimOpened(0, 100001, 0));
        int[] counts = {0, 2, 4, 0, 2};
        for (int what = 0; what < 5; what++) {
            int w = what;
            Due.is(counts[what], () -> x.claimCount(w));
        }
        Due.argument(() -> x.claimCount(5));
        Due.argument(() -> x.claimCount(-1));
    }

    private static void claims(DigHouse x, int source, int day, int... due) {
        for (int k = 0; k < due.length; k++) {
            int at = k;
            Due.is(due[k], () -> x.claimOpened(source, day, at));
        }
        Due.is(-1, () -> x.claimOpened(source, day, due.length));
    }

    private static void type(DigHouse x, String text) {
        for (char c : text.toCharArray()) {
            x.claimUnit(c);
        }
    }

    private static void quotes() {
        DigHouse x = new DigHouse();
        Due.element(() -> x.claimQuote(0, 0));
        type(x, "abcab");
        x.claimSource(1, 1);
        x.claimSource(1, 1);
        Due.element(() -> x.claimQuote(0, 6));
        Due.element(() -> x.claimQuote(0, -1));
        Due.element(() -> x.claimQuote(2, 0));
        Due.is(0, () -> x.claimQuote(0, 5));
        Due.is(0, () -> x.claimQuote(1, 0));
        Due.element(() -> x.claimQuote(1, 1));
        type(x, "ab");
        Due.is(0, () -> x.claimQuote(0, 0));
        Due.is(0, () -> x.claimQuote(0, 3));
        Due.is(1, () -> x.claimQuote(0, 1));
        Due.is(1, () -> x.claimQuote(0, 5));
        Due.is(1, () -> x.claimQuote(0, 4));
        beyondTheEnd();
        type(x, "c");
        Due.is(0, () -> x.claimQuote(0, 0));
        Due.is(3, () -> x.claimQuote(0, 3));
        Due.is(3, () -> x.claimCount(0));
    }

    /** A text of sixty signs ends there, whatever the next source's text is. */
    private static void beyondTheEnd() {
        DigHouse x = new DigHouse();
        type(x, "a".repeat(60));
        x.claimSource(0, 0);
        type(x, "aaa");
        x.claimSource(0, 0);
        type(x, "aaaa");
        Due.is(0, () -> x.claimQuote(0, 56));
        Due.is(2, () -> x.claimQuote(0, 59));
        Due.is(4, () -> x.claimQuote(1, 0));
    }

    private static void cite(DigHouse x, int source, int form, String due) {
        Due.is(due.length(), () -> x.claimCite(source, form, -1));
        for (int i = 0; i < due.length(); i++) {
            int at = i;
            Due.is(due.charAt(i), () -> x.claimCite(source, form, at));
        }
        Due.element(() -> x.claimCite(source, form, due.length()));
    }

    private static void citations() {
        DigHouse x = new DigHouse();
        for (int s = 0; s < 13; s++) {
            x.claimSource(s * 2, s * 1000);
        }
        cite(x, 0, 0, "");
        Due.element(() -> x.claimForm(4));
        Due.element(() -> x.claimForm(-1));
        type(x, "[#:@$] $#");
        Due.is(9, () -> x.claimForm(3));
        Due.is(0, () -> x.claimCount(0));
        cite(x, 12, 3, "[12:12000y] y12");
        cite(x, 0, 3, "[0:0a] a0");
        cite(x, 0, 2, "");
        Due.element(() -> x.claimCite(13, 3, 0));
        Due.element(() -> x.claimCite(0, 4, 0));
        Due.element(() -> x.claimCite(0, -1, 0));
        Due.element(() -> x.claimCite(0, 3, -2));
        type(x, "x");
        Due.is(1, () -> x.claimForm(3));
        cite(x, 12, 3, "x");
        Due.is(0, () -> x.claimForm(3));
        cite(x, 12, 3, "");
    }

    private static void longCitation() {
        DigHouse x = new DigHouse();
        x.claimSource(0, 100000);
        for (int i = 0; i < 60; i++) {
            x.claimUnit(64);
        }
        Due.is(60, () -> x.claimForm(0));
        Due.is(360, () -> x.claimCite(0, 0, -1));
        Due.is('1', () -> x.claimCite(0, 0, 354));
    }

    private static int rule(DigHouse x, String text) {
        for (char c : text.toCharArray()) {
            x.rightUnit(c, 0, 0, 0);
        }
        return x.rightRule();
    }

    private static void pads() {
        DigHouse x = new DigHouse();
        Due.is(0, () -> x.rightUnit(0, 0, 0, 0));
        Due.is(3, () -> x.rightUnit(115 << 24, 32 << 16, 0, 103));
        Due.is(0, () -> x.rightRule());
        for (int i = 1; i <= 2; i++) {
            int count = 16 * i;
            Due.is(count, () -> x.rightUnit(-1, -1, -1, -1));
        }
        Due.state(() -> x.rightUnit(-1, -1, 1, 0));
        Due.is(32, () -> x.rightCount(0));
        Due.is(40, () -> x.rightUnit(-1, 0, 0x80808080, 0));
        Due.state(() -> x.rightUnit(0, 0, 0, 1));
        Due.is(40, () -> x.rightUnit(0, 0, 0, 0));
        Due.is(-1, () -> x.rightRule());
        Due.is(0, () -> x.rightCount(0));
    }

    private static void rules() {
        DigHouse x = new DigHouse();
        String[] wrong = {"", "x", " ", "ss", "s ", "s  g", "s !", "s !!g", "s r8", "s k4", "s f6", "s p4", "s c8", "s g1", "s r", "sg", "s r1g",
            "s x1", "m r1 k1 "};
        int[] at = {0, 0, 0, 1, 2, 2, 3, 3, 3, 3, 3, 3, 3, 3, 3, 1, 4, 2, 8};
        for (int i = 0; i < wrong.length; i++) {
            int k = i;
            Due.is(-1 - at[i], () -> rule(x, wrong[k]));
            Due.is(0, () -> x.rightCount(0));
        }
        Due.is(0, () -> x.rightCount(1));
        Due.is(0, () -> rule(x, "a"));
        Due.is(1, () -> rule(x, "m r7 !k3 f5 p3 !c7 g !g r0"));
        Due.is(2, () -> x.rightCount(2));
    }

    private static void mostRules() {
        DigHouse x = new DigHouse();
        Due.element(() -> x.rightDrop(0));
        for (int r = 0; r < 20; r++) {
            int number = r;
            Due.is(number, () -> rule(x, "s"));
        }
        x.rightUnit(115, 0, 0, 0);
        Due.state(() -> x.rightRule());
        Due.is(1, () -> x.rightCount(0));
        Due.yes(() -> x.rightDrop(19));
        Due.no(() -> x.rightDrop(19));
        Due.element(() -> x.rightDrop(20));
        Due.element(() -> x.rightDrop(-1));
        Due.state(() -> x.rightRule());
        Due.is(20, () -> x.rightCount(1));
        Due.is(19, () -> x.rightCount(2));
    }

    /** A text of forty signs may be a rule, or end ahead of its last condition's end. */
    private static void fullPad() {
        DigHouse x = new DigHouse();
        String whole = "s r0 r0 r0 r0 r0 r0 r0 r0 r0 r0 r0 r0 r0";
        Due.is(40, () -> whole.length());
        Due.is(0, () -> rule(x, whole));
        Due.is(-41, () -> rule(x, "s g g r0 r0 r0 r0 r0 r0 r0 r0 r0 r0 r0 r"));
        Due.is(-41, () -> rule(x, "s r0 r0 r0 r0 r0 r0 r0 r0 r0 r0 r0 g g !"));
    }

    private static void persons() {
        DigHouse x = new DigHouse();
        Due.argument(() -> x.rightPerson(256));
        Due.argument(() -> x.rightPerson(-1));
        for (int p = 0; p < 12; p++) {
            int person = p;
            Due.is(person, () -> x.rightPerson(255));
        }
        Due.state(() -> x.rightPerson(0));
        Due.argument(() -> x.rightPerson(256));
        Due.is(12, () -> x.rightCount(3));
    }

    private static void embargoes() {
        DigHouse x = new DigHouse();
        x.context();
        Due.element(() -> x.rightEmbargo(0, -2));
        x.find(0, 0, -1);
        x.object(0, 1, 1, 1, 1);
        Due.argument(() -> x.rightEmbargo(0, -2));
        Due.argument(() -> x.rightEmbargo(0, 100001));
        Due.is(-1, () -> x.rightEmbargo(0, 1));
        Due.is(1, () -> x.rightEmbargo(0, 1));
        rule(x, "s");
        x.rightPerson(127);
        x.rightPerson(128);
        Due.is(0, () -> x.look(0, 0, 0, 0));
        Due.is(2, () -> x.look(1, 0, 0, 0));
        x.pass(1);
        Due.is(0, () -> x.look(0, 0, 0, 0));
        x.pass(1);
        Due.is(2, () -> x.look(0, 0, 0, 0));
        Due.is(1, () -> x.rightEmbargo(0, 100000));
        Due.is(0, () -> x.look(0, 0, 0, 0));
        Due.is(100000, () -> x.rightEmbargo(0, -1));
        Due.is(2, () -> x.look(0, 0, 0, 0));
    }
}
