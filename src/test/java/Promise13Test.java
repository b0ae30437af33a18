/** placeCount; termUnit, termRead, termMany, termWritten, termFails, termShield, termOpen, termTold, termExtend, termRequest. */
public final class Promise13Test {
    public static void main(String[] args) {
        counts();
        pads();
        texts();
        mostContracts();
        written();
        inputs();
        shields();
        extended();
        requests();
        Due.end();
    }

    private static DigHouse house(int objects) {
        DigHouse x = new DigHouse();
        x.context();
        for (int o = 0; o < objects; o++) {
            x.find(0, 0, -1);
            x.object(o, 1, 1, 1, 1);
        }
        return x;
    }

    private static int read(DigHouse x, String text) {
        for (char c : text.toCharArray()) {
            x.termUnit(c);
        }
        return x.termRead();
    }

    private static void counts() {
        DigHouse x = house(2);
        x.place(-1, 100);
        x.place(-1, 100);
        x.placeDoor(0, 1, 1, 1);
        x.placePlanned(0, 0, 0, 0);
        x.hour(0, 0);
        x.carry(0, 0, 0, 0);
        x.carry(0, 1, 0, 0);
        x.carry(1, 1, 0, 0);
        int[] due = {2, 2, 1, 1, 1, 3};
        for (int what = 0; what < 6; what++) {
            int w = what;
            Due.is(due[what], () -> x.placeCount(w));
        }
        Due.argument(() -> x.placeCount(6));
        Due.argument(() -> x.placeCount(-1));
    }

    private static void pads() {
        DigHouse x = house(0);
        Due.argument(() -> x.termUnit(32));
        Due.argument(() -> x.termUnit(127));
        Due.is(1, () -> x.termUnit(33));
        Due.is(2, () -> x.termUnit(126));
        for (int i = 3; i <= 80; i++) {
            int count = i;
            Due.is(count, () -> x.termUnit(97));
        }
        Due.state(() -> x.termUnit(97));
        Due.state(() -> x.termUnit(0));
        Due.is(80, () -> x.termCount(0));
        Due.is(-2, () -> x.termRead());
        Due.is(0, () -> x.termCount(0));
        Due.is(-1, () -> x.termRead());
        Due.is(0, () -> x.termCount(1));
    }

    private static void texts() {
        DigHouse x = house(0);
        String[] wrong = {"i=1", "a", "a+1", "a=", "a=x", "a=1234567", "a=1&", "a=1|", "a=1;", "(a=1", "a=1)", "((((((a=1", "!!!!a=1",
            "a=1;b=2;c=3;d=4;e=5;f=6;g=7", "(a=1;b=2)", "a=1b=2", "()", "!", "a=1&&b=1", "a=1!b=1", "x=1", "a==1"};
        int[] at = {0, 1, 1, 2, 2, 8, 4, 4, 4, 4, 3, 5, 3, 23, 4, 3, 1, 1, 4, 3, 0, 2};
        for (int i = 0; i < wrong.length; i++) {
            int k = i;
            Due.is(-1 - at[i], () -> read(x, wrong[k]));
            Due.is(0, () -> x.termCount(0));
        }
        Due.is(0, () -> read(x, "!!!(!!!((((a=0)))|b<999999&c>1));z=1;y=2;h=3;d=4;e=5"));
        Due.is(6, () -> x.termMany(0));
        Due.index(() -> x.termMany(1));
        Due.index(() -> x.termMany(-1));
    }

    private static void mostContracts() {
        DigHouse x = house(0);
        for (int c = 0; c < 8; c++) {
            int contract = c;
            Due.is(contract, () -> read(x, "a=1"));
        }
        x.termUnit(97);
        Due.state(() -> x.termRead());
        Due.is(1, () -> x.termCount(0));
        Due.is(8, () -> x.termCount(1));
    }

    private static void written() {
        DigHouse x = house(0);
        String[] texts = {"a=000", "(((b<0012)))", "!(!a=1&b=2)|c=3;z=1", "!(a=1|b=2)&!!c=000100", "(a=1&(b=2&c=3))|((d=4))",
            "(((((a=1&b=2|c=3&d=4)))))"};
        String[] due = {"a=0;", "b<12;", "(!(!a=1&b=2)|c=3);z=1;", "(!(a=1|b=2)&!!c=100);", "((a=1&(b=2&c=3))|d=4);",
            "((a=1&b=2)|(c=3&d=4));"};
        for (int i = 0; i < texts.length; i++) {
            int c = i;
            Due.is(i, () -> read(x, texts[c]));
            Due.is(due[i].length(), () -> x.termWritten(c, -1));
            for (int k = 0; k < due[i].length(); k++) {
                int at = k;
                Due.is(due[i].charAt(k), () -> x.termWritten(c, at));
            }
            Due.index(() -> x.termWritten(c, due[c].length()));
            Due.index(() -> x.termWritten(c, -2));
        }
        Due.index(() -> x.termWritten(6, -1));
    }

    /** Which terms are open: those where a name is looked at that fails, or has no row yet. */
    private static void inputs() {
        DigHouse x = house(1);
        x.place(-1, 10);
        x.room(0);
        read(x, "a>0;c=1;a>0|c=1;a<0&c=1;a<0|c=1;z=0");
        Due.index(() -> x.termOpen(0, 0, 0));
        x.lend(0, 0, 5, 6);
        Due.index(() -> x.termOpen(0, -1, -1));
        Due.argument(() -> x.termOpen(0, -1, 0));
        Due.argument(() -> x.termOpen(0, 2400001, 0));
        open(x, 0, 0, 1, 2, 3, 4);
        x.hour(0, 0);
        open(x, 0, 1, 4);
        open(x, 2400000, 1, 4);
        Due.index(() -> x.termFails(8, -1, 0));
        Due.index(() -> x.termFails(-1, 0, 0));
        Due.argument(() -> x.termFails(0, -1, 0));
        Due.argument(() -> x.termFails(0, 5, 4));
        Due.argument(() -> x.termFails(0, 5, 2400001));
        x.termFails(0, 3, 4);
        open(x, 2, 1, 4);
        open(x, 3, 0, 1, 2, 3, 4);
        open(x, 4, 0, 1, 2, 3, 4);
        open(x, 5, 1, 4);
        x.termFails(0, 7, 2400000);
        open(x, 3, 1, 4);
        open(x, 7, 0, 1, 2, 3, 4);
        Due.is(0, () -> x.termTold(0, -1, 0));
    }

    private static void open(DigHouse x, int hour, int... due) {
        for (int k = 0; k < due.length; k++) {
            int at = k;
            Due.is(due[k], () -> x.termOpen(0, hour, at));
        }
        Due.is(-1, () -> x.termOpen(0, hour, due.length));
    }

    private static void shields() {
        DigHouse x = house(1);
        read(x, "z=1");
        Due.index(() -> x.termShield(0, true));
        Due.index(() -> x.termTold(0, -1, 0));
        x.lend(0, 0, 0, 5);
        Due.yes(() -> x.termShield(0, true));
        Due.no(() -> x.termShield(0, true));
        Due.is(0, () -> x.hour(0, 0));
        Due.yes(() -> x.termShield(0, false));
        Due.is(1, () -> x.hour(0, 0));
        Due.is(1, () -> x.hour(0, 0));
        Due.is(1, () -> x.termTold(0, -1, 0));
        Due.is(1, () -> x.termTold(0, -1, 1));
        Due.is(1, () -> x.termTold(0, 0, 0));
        Due.is(0, () -> x.termTold(0, 0, 1));
        Due.index(() -> x.termTold(0, 1, 0));
        Due.index(() -> x.termTold(0, -2, 0));
        Due.index(() -> x.termTold(0, 0, 2));
        Due.index(() -> x.termTold(0, -1, 2));
        Due.index(() -> x.termTold(1, -1, 0));
    }

    private static void extended() {
        DigHouse x = house(2);
        read(x, "z=1");
        x.lend(0, 0, 10, 20);
        x.lend(0, 0, 30, 40);
        x.lend(0, 1, 22, 40);
        Due.index(() -> x.termExtend(3, -1, -1));
        Due.argument(() -> x.termExtend(0, -1, 0));
        Due.argument(() -> x.termExtend(0, 100001, 0));
        Due.argument(() -> x.termExtend(0, 25, -1));
        Due.argument(() -> x.termExtend(0, 25, 100001));
        Due.is(1, () -> x.termExtend(0, 5, 21));
        Due.is(2, () -> x.termExtend(0, 20, 20));
        Due.is(3, () -> x.termExtend(0, 30, 20));
        Due.is(11, () -> x.termDays(0));
        Due.is(0, () -> x.termExtend(0, 29, 20));
        Due.is(20, () -> x.termDays(0));
        Due.is(0, () -> x.termExtend(1, 100000, 0));
        Due.is(3, () -> x.termExtend(0, 100000, 29));
    }

    private static void requests() {
        DigHouse x = house(0);
        Due.index(() -> x.termRequest(16, -1, 0));
        Due.index(() -> x.termRequest(-1, 0, 0));
        Due.argument(() -> x.termRequest(15, -1, 0));
        Due.argument(() -> x.termRequest(15, 0, 100001));
        Due.argument(() -> x.termRequest(15, 5, 4));
        for (int r = 0; r < 30; r++) {
            int request = r;
            Due.is(request, () -> x.termRequest(15, 0, 100000));
        }
        Due.state(() -> x.termRequest(0, 5, 4));
        Due.index(() -> x.termRequest(16, 5, 4));
        Due.is(30, () -> x.termCount(3));
    }
}
