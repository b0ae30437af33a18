import java.util.function.Supplier;

/** The edges of promise 11: ownerStops up to ownerChain, placeKeys. */
public final class Edges11Test {
    private static final int MIN = Integer.MIN_VALUE;
    private static final int MAX = Integer.MAX_VALUE;

    public static void main(String[] args) {
        bounds();
        telling();
        rights();
        licences();
        seals();
        values();
        chains();
        longChains();
        keys();
        Due.end();
    }

    private static DigHouse things() {
        DigHouse x = Houses.objects(10);
        for (int r = 0; r < 7; r++) {
            x.ownerRow(r, 0, 10, 20, 5);
        }
        return x;
    }

    private static DigHouse licences(int count) {
        DigHouse x = things();
        for (int l = 1; l <= count; l++) {
            int licence = l;
            Due.is(licence, () -> x.ownerLicence(licence % 10, licence % 8, 0, 100000));
        }
        return x;
    }

    private static DigHouse values(int count) {
        DigHouse x = things();
        for (int v = 1; v <= count; v++) {
            int value = v;
            Due.is(value, () -> x.ownerWorth(value % 10, 100000, value % 8, MAX));
        }
        return x;
    }

    private static void bounds() {
        Supplier<DigHouse> house = Edges11Test::things;
        Bounds.of(house, "ownerStops", 3, 9).element(0, 0, 9).argument(1, 0, 100000).hold();
        Bounds.of(house, "ownerTell", 0, 2, 7).fixed(0).element(1, 0, 3).argument(2, 0, 200).hold();
        Bounds.of(house, "ownerTell", 1, 2, 7).fixed(0).element(1, 0, 9).element(2, 0, 31).hold();
        Bounds.of(house, "ownerTell", 2, 2, 7).fixed(0).element(1, 0, 31).argument(2, 0, 100000).hold();
        Bounds.of(house, "ownerTell", 1, 2, 7).element(0, 0, 2).fixed(1).fixed(2).hold();
        Bounds.of(house, "ownerRights", 3, 2, 9).element(0, 0, 9).element(1, 0, 3).argument(2, 0, 100000).hold();
        Bounds.of(house, "ownerLicence", 3, 2, 50, 60).element(0, 0, 9).element(1, 0, 7).argument(2, 0, 60).argument(3, 50, 100000)
            .hold().full(() -> licences(40));
        Bounds.of(house, "ownerLicensed", 3, 2, 9).element(0, 0, 9).element(1, 0, 7).argument(2, 0, 100000).hold();
        Bounds.of(house, "ownerSeal", 3, 2, true).element(0, 0, 6).element(1, 0, 7).hold();
        Bounds.of(house, "ownerSeen", 3, 2, 1, 9).element(0, 0, 9).element(1, 0, 7).element(2, 0, MAX).argument(3, 0, 100000).hold();
        Bounds.of(house, "ownerWorth", 3, 50, 2, 60).element(0, 0, 9).argument(1, 0, 100000).element(2, 0, 7).argument(3, 0, MAX)
            .hold().full(() -> values(60));
        Bounds.of(house, "ownerValue", 3, 50, 2).element(0, 0, 9).argument(1, 0, 100000).element(2, 0, 7).hold();
        Bounds.of(house, "placeKeys", 3, 1).element(0, 0, 9).argument(1, 0, 2).hold();
        DigHouse none = new DigHouse();
        Due.element(() -> none.ownerStops(0, -1));
        Due.element(() -> none.ownerTell(1, 0, 0));
        Due.element(() -> none.ownerLicence(0, 0, 1, 0));
        Due.element(() -> none.ownerChain(0, -1, -1));
        Due.element(() -> none.placeKeys(0, 3));
    }

    /** What is asked ahead of what, where more than one is wrong. */
    private static void telling() {
        DigHouse x = things();
        for (int what : new int[] {-1, 3, MIN, MAX}) {
            Due.element(() -> x.ownerTell(what, 0, 0));
        }
        Due.element(() -> x.ownerTell(0, 4, 201));
        Due.element(() -> x.ownerTell(0, -1, 0));
        Due.argument(() -> x.ownerTell(0, 3, 201));
        Due.argument(() -> x.ownerTell(0, 0, -1));
        Due.element(() -> x.ownerTell(1, 10, 0));
        Due.element(() -> x.ownerTell(1, 9, 32));
        Due.element(() -> x.ownerTell(2, 32, -1));
        Due.argument(() -> x.ownerTell(2, 31, 100001));
    }

    /** A maker has a right as long as the life did not end, and up to so many years of 365 days behind its end. */
    private static void rights() {
        DigHouse x = things();
        Due.is(-1, () -> x.ownerRights(0, 0, 0));
        x.ownerTell(1, 0, 31);
        Due.is(31, () -> x.ownerRights(0, 0, 0));
        Due.is(31, () -> x.ownerRights(0, 3, 100000));
        Due.is(-1, () -> x.ownerRights(1, 3, 100000));
        x.ownerTell(2, 31, 0);
        Due.is(31, () -> x.ownerRights(0, 0, 0));
        Due.is(-1, () -> x.ownerRights(0, 0, 1));
        x.ownerTell(0, 0, 1);
        Due.is(31, () -> x.ownerRights(0, 0, 365));
        Due.is(-1, () -> x.ownerRights(0, 0, 366));
        Due.is(-1, () -> x.ownerRights(0, 1, 1));
        x.ownerTell(0, 3, 200);
        Due.is(31, () -> x.ownerRights(0, 3, 73000));
        Due.is(-1, () -> x.ownerRights(0, 3, 73001));
        x.ownerTell(2, 31, 27000);
        Due.is(31, () -> x.ownerRights(0, 3, 100000));
        x.ownerTell(2, 31, 26999);
        Due.is(31, () -> x.ownerRights(0, 3, 99999));
        Due.is(-1, () -> x.ownerRights(0, 3, 100000));
        // What is refused leaves years, maker and end as they were.
        Due.argument(() -> x.ownerTell(0, 3, 201));
        Due.argument(() -> x.ownerTell(0, 3, -1));
        Due.argument(() -> x.ownerTell(2, 31, 100001));
        Due.argument(() -> x.ownerTell(2, 31, -1));
        Due.element(() -> x.ownerTell(1, 0, 32));
        Due.element(() -> x.ownerTell(1, 0, -1));
        Due.is(31, () -> x.ownerRights(0, 3, 99999));
        Due.is(-1, () -> x.ownerRights(0, 3, 100000));
        Due.is(31, () -> x.ownerRights(0, 1, 26999));
        Due.is(-1, () -> x.ownerRights(0, 1, 27000));
        x.ownerTell(2, 31, 100000);
        Due.is(31, () -> x.ownerRights(0, 0, 100000));
        Due.is(31, () -> x.ownerRights(0, 3, 0));
        x.ownerTell(1, 0, 0);
        Due.is(0, () -> x.ownerRights(0, 1, 100000));
        x.ownerTell(0, 0, 0);
        x.ownerTell(2, 0, 9);
        Due.is(0, () -> x.ownerRights(0, 0, 9));
        Due.is(-1, () -> x.ownerRights(0, 0, 10));
    }

    private static void licences() {
        DigHouse x = things();
        x.ownerLicence(0, 7, 10, 20);
        x.ownerLicence(0, 7, 22, 22);
        int[] days = {0, 9, 10, 20, 21, 22, 23, 100000};
        boolean[] due = {false, false, true, true, false, true, false, false};
        for (int i = 0; i < 8; i++) {
            int day = days[i];
            Due.compare(day + " " + due[i], day + " " + x.ownerLicensed(0, 7, day));
            Due.no(() -> x.ownerLicensed(0, 6, day));
            Due.no(() -> x.ownerLicensed(1, 7, day));
        }
        Due.argument(() -> x.ownerLicence(0, 7, 21, 20));
        DigHouse y = licences(40);
        Due.state(() -> y.ownerLicence(0, 0, 0, 0));
        Due.yes(() -> y.ownerLicensed(0, 0, 100000));
        Due.no(() -> y.ownerLicensed(0, 1, 0));
    }

    private static void seals() {
        DigHouse x = things();
        Due.is(1, () -> x.ownerSeen(1, 7, 0, 5));
        Due.is(-1, () -> x.ownerSeen(1, 7, 0, 4));
        Due.yes(() -> x.ownerSeal(1, 7, true));
        Due.no(() -> x.ownerSeal(1, 7, true));
        Due.is(-1, () -> x.ownerSeen(1, 7, 0, 5));
        for (int role = 0; role < 7; role++) {
            int r = role;
            Due.is(1, () -> x.ownerSeen(1, r, 0, 5));
            Due.no(() -> x.ownerSeal(1, r, false));
        }
        Due.yes(() -> x.ownerSeal(1, 7, false));
        Due.no(() -> x.ownerSeal(1, 7, false));
        Due.is(1, () -> x.ownerSeen(1, 7, 0, 100000));
        Due.is(-1, () -> x.ownerSeen(1, 7, 1, 100000));
        Due.is(-1, () -> x.ownerSeen(1, 7, MAX, 100000));
        Due.is(-1, () -> x.ownerSeen(9, 7, 0, 100000));
        Due.yes(() -> x.ownerSeal(6, 0, true));
    }

    /** The greatest day that is not above the day asked for, of equal ones the later value. */
    private static void values() {
        DigHouse x = things();
        Due.is(-1, () -> x.ownerValue(0, 100000, 7));
        x.ownerWorth(0, 10, 7, 0);
        x.ownerWorth(0, 100000, 7, MAX);
        x.ownerWorth(0, 5, 7, 55);
        x.ownerWorth(0, 0, 6, 66);
        int[][] due = {{4, -1}, {5, 55}, {9, 55}, {10, 0}, {99999, 0}, {100000, MAX}};
        for (int[] row : due) {
            Due.is(row[1], () -> x.ownerValue(0, row[0], 7));
            Due.is(66, () -> x.ownerValue(0, row[0], 6));
            Due.is(-1, () -> x.ownerValue(1, row[0], 7));
        }
        x.ownerWorth(0, 10, 7, 3);
        Due.is(3, () -> x.ownerValue(0, 10, 7));
        DigHouse y = values(60);
        Due.state(() -> y.ownerWorth(0, 0, 0, 0));
        Due.argument(() -> y.ownerWorth(0, 0, 0, -1));
        Due.is(MAX, () -> y.ownerValue(0, 100000, 4));
        Due.is(-1, () -> y.ownerValue(0, 99999, 4));
    }

    private static void chain(DigHouse x, int thing, int day, String due) {
        Due.is(due.length(), () -> x.ownerChain(thing, day, -1));
        for (int i = 0; i < due.length(); i++) {
            int at = i;
            Due.is(due.charAt(i), () -> x.ownerChain(thing, day, at));
        }
        Due.element(() -> x.ownerChain(thing, day, due.length()));
        Due.element(() -> x.ownerChain(thing, day, MAX));
        Due.element(() -> x.ownerChain(thing, day, -2));
        Due.element(() -> x.ownerChain(thing, day, MIN));
        // Ahead of the day what is below NONE, behind it what is beyond the chain.
        Due.element(() -> x.ownerChain(thing, -1, -2));
        Due.element(() -> x.ownerChain(thing, 100001, MIN));
        Due.argument(() -> x.ownerChain(thing, -1, due.length()));
        Due.argument(() -> x.ownerChain(thing, 100001, MAX));
        Due.argument(() -> x.ownerChain(thing, -1, -1));
        Due.element(() -> x.ownerChain(10, -1, -1));
    }

    private static void chains() {
        DigHouse x = Houses.objects(10);
        chain(x, 9, 0, "");
        x.ownerRow(9, 31, 0, 0, 0);
        chain(x, 9, 0, "31@0-0;");
        x.ownerRow(9, 0, 100000, 100000, 1);
        x.ownerRow(9, 10, 0, 99999, 2);
        x.ownerDoubt(0, true);
        chain(x, 9, 1, "31@0-0?;0@100000-100000;");
        chain(x, 9, 2, "31@0-0?;10@0-99999;0@100000-100000;");
        chain(x, 0, 2, "");
        x.ownerCorrect(0, 2, 100000, 3);
        x.ownerCorrect(0, 1, 100000, 3);
        x.ownerCorrect(1, 0, 5, 3);
        chain(x, 9, 3, "10@0-99999;31@100000-100000?;5@100000-100000;");
        x.ownerDoubt(0, false);
        x.ownerDoubt(2, true);
        chain(x, 9, 3, "10@0-99999?;31@100000-100000;5@100000-100000;");
    }

    /** The longest chain: 120 rows of the longest numbers, each in doubt. */
    private static void longChains() {
        DigHouse x = Houses.objects(1);
        for (int r = 0; r < 120; r++) {
            x.ownerRow(0, 31, 100000, 100000, 0);
            x.ownerDoubt(r, true);
        }
        int each = "31@100000-100000?;".length();
        Due.is(120 * each, () -> x.ownerChain(0, 0, -1));
        Due.is(';', () -> x.ownerChain(0, 0, 120 * each - 1));
        Due.element(() -> x.ownerChain(0, 0, 120 * each));
    }

    private static void keys() {
        DigHouse x = Houses.objects(10);
        int[] told = {1, 2, 0, 0, 2, 1};
        int was = 0;
        for (int n : told) {
            int before = was;
            Due.is(before, () -> x.placeKeys(9, n));
            was = n;
        }
        Due.argument(() -> x.placeKeys(9, 3));
        Due.is(1, () -> x.placeKeys(9, 1));
        Due.is(0, () -> x.placeKeys(8, 2));
    }
}
