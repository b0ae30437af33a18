/** ownerStops, ownerTell, ownerRights, ownerLicence, ownerLicensed, ownerSeal, ownerSeen, ownerWorth, ownerValue, ownerChain; placeKeys. */
public final class Promise11Test {
    public static void main(String[] args) {
        stops();
        rights();
        licences();
        seals();
        values();
        chains();
        keys();
        Due.end();
    }

    private static DigHouse house() {
        DigHouse x = new DigHouse();
        x.context();
        x.find(0, 0, -1);
        x.find(0, 0, -1);
        x.object(0, 1, 1, 1, 1);
        x.object(1, 1, 1, 1, 1);
        return x;
    }

    private static void stops() {
        DigHouse x = house();
        Due.element(() -> x.ownerStops(2, -1));
        Due.argument(() -> x.ownerStops(0, -1));
        Due.argument(() -> x.ownerStops(0, 100001));
        Due.no(() -> x.ownerStops(0, 0));
        x.ownerClaim(1, 0, 5);
        Due.no(() -> x.ownerStops(0, 5));
        Due.yes(() -> x.ownerStops(1, 100000));
        x.ownerClaim(1, 0, 7);
        x.ownerSettle(0, 5);
        Due.no(() -> x.ownerStops(1, 5));
        Due.yes(() -> x.ownerStops(1, 7));
    }

    private static void rights() {
        DigHouse x = house();
        Due.element(() -> x.ownerTell(3, 0, 0));
        Due.element(() -> x.ownerTell(0, 4, -1));
        Due.argument(() -> x.ownerTell(0, 3, 201));
        Due.argument(() -> x.ownerTell(0, 3, -1));
        Due.element(() -> x.ownerTell(1, 2, 0));
        Due.element(() -> x.ownerTell(1, 0, 32));
        Due.element(() -> x.ownerTell(2, 32, -1));
        Due.argument(() -> x.ownerTell(2, 0, 100001));
        Due.is(-1, () -> x.ownerRights(0, 0, 0));
        x.ownerTell(1, 0, 9);
        Due.is(9, () -> x.ownerRights(0, 0, 100000));
        x.ownerTell(2, 9, 100);
        x.ownerTell(0, 1, 2);
        Due.is(9, () -> x.ownerRights(0, 0, 100));
        Due.is(-1, () -> x.ownerRights(0, 0, 101));
        Due.is(9, () -> x.ownerRights(0, 1, 830));
        Due.is(-1, () -> x.ownerRights(0, 1, 831));
        Due.is(-1, () -> x.ownerRights(1, 1, 0));
        Due.element(() -> x.ownerRights(2, 0, -1));
        Due.element(() -> x.ownerRights(0, 4, -1));
        Due.argument(() -> x.ownerRights(0, 0, -1));
        x.ownerTell(0, 1, 200);
        x.ownerTell(2, 9, 100000);
        Due.is(9, () -> x.ownerRights(0, 0, 100000));
    }

    private static void licences() {
        DigHouse x = house();
        Due.element(() -> x.ownerLicence(2, 0, 9, 8));
        Due.element(() -> x.ownerLicence(0, 8, 9, 8));
        Due.argument(() -> x.ownerLicence(0, 0, 9, 8));
        Due.argument(() -> x.ownerLicence(0, 0, -1, 8));
        Due.is(1, () -> x.ownerLicence(0, 7, 5, 8));
        Due.yes(() -> x.ownerLicensed(0, 7, 5));
        Due.yes(() -> x.ownerLicensed(0, 7, 8));
        Due.no(() -> x.ownerLicensed(0, 7, 9));
        Due.no(() -> x.ownerLicensed(0, 6, 5));
        Due.no(() -> x.ownerLicensed(1, 7, 5));
        Due.element(() -> x.ownerLicensed(0, 8, -1));
        Due.argument(() -> x.ownerLicensed(0, 0, 100001));
        for (int l = 2; l <= 40; l++) {
            int count = l;
            Due.is(count, () -> x.ownerLicence(0, 0, 0, 0));
        }
        Due.state(() -> x.ownerLicence(0, 0, 0, 0));
        Due.argument(() -> x.ownerLicence(0, 0, 1, 0));
    }

    private static void seals() {
        DigHouse x = house();
        Due.element(() -> x.ownerSeal(0, 0, true));
        x.ownerRow(0, 1, 0, 5, 3);
        x.ownerRow(1, 1, 0, 5, 3);
        x.ownerRow(0, 1, 0, 5, 4);
        Due.element(() -> x.ownerSeal(0, 8, true));
        Due.yes(() -> x.ownerSeal(0, 7, true));
        Due.no(() -> x.ownerSeal(0, 7, true));
        Due.is(-1, () -> x.ownerSeen(0, 7, 0, 3));
        Due.is(2, () -> x.ownerSeen(0, 7, 0, 4));
        Due.is(0, () -> x.ownerSeen(0, 6, 0, 3));
        Due.is(2, () -> x.ownerSeen(0, 6, 1, 4));
        Due.is(-1, () -> x.ownerSeen(0, 6, 2, 4));
        Due.yes(() -> x.ownerSeal(0, 7, false));
        Due.is(0, () -> x.ownerSeen(0, 7, 0, 3));
        Due.is(-1, () -> x.ownerSeen(0, 7, 0, 2));
        Due.element(() -> x.ownerSeen(2, 0, 0, -1));
        Due.element(() -> x.ownerSeen(0, 8, 0, -1));
        Due.element(() -> x.ownerSeen(0, 0, -1, -1));
        Due.argument(() -> x.ownerSeen(0, 0, 0, -1));
    }

    private static void values() {
        DigHouse x = house();
        Due.element(() -> x.ownerWorth(2, -1, 0, -1));
        Due.element(() -> x.ownerWorth(0, -1, 8, -1));
        Due.argument(() -> x.ownerWorth(0, -1, 0, 1));
        Due.argument(() -> x.ownerWorth(0, 0, 0, -1));
        Due.is(1, () -> x.ownerWorth(0, 10, 7, 100));
        Due.is(2, () -> x.ownerWorth(0, 20, 7, 200));
        Due.is(3, () -> x.ownerWorth(0, 10, 7, 150));
        Due.is(-1, () -> x.ownerValue(0, 9, 7));
        Due.is(150, () -> x.ownerValue(0, 10, 7));
        Due.is(150, () -> x.ownerValue(0, 19, 7));
        Due.is(200, () -> x.ownerValue(0, 20, 7));
        Due.is(-1, () -> x.ownerValue(0, 20, 6));
        Due.is(-1, () -> x.ownerValue(1, 20, 7));
        Due.element(() -> x.ownerValue(0, -1, 8));
        Due.argument(() -> x.ownerValue(0, -1, 7));
        for (int v = 4; v <= 60; v++) {
            int count = v;
            Due.is(count, () -> x.ownerWorth(0, 0, 0, 2147483647));
        }
        Due.state(() -> x.ownerWorth(0, 0, 0, 0));
        Due.argument(() -> x.ownerWorth(0, 0, 0, -1));
        Due.is(2147483647, () -> x.ownerValue(0, 0, 0));
    }

    private static void chains() {
        DigHouse x = house();
        x.ownerRow(0, 31, 200, 100000, 0);
        x.ownerRow(0, 0, 5, 5, 0);
        x.ownerRow(0, 2, 200, 201, 9);
        x.ownerDoubt(1, true);
        chain(x, 8, "0@5-5?;31@200-100000;");
        chain(x, 9, "0@5-5?;31@200-100000;2@200-201;");
        x.ownerCorrect(0, 1, 300, 10);
        chain(x, 10, "0@5-5?;2@200-201;31@300-100000;");
        Due.element(() -> x.ownerChain(2, -1, 0));
        Due.element(() -> x.ownerChain(0, -1, -2));
        Due.argument(() -> x.ownerChain(0, -1, 999));
        Due.argument(() -> x.ownerChain(0, 100001, -1));
        Due.is(0, () -> x.ownerChain(1, 0, -1));
        Due.element(() -> x.ownerChain(1, 0, 0));
    }

    private static void chain(DigHouse x, int day, String due) {
        Due.is(due.length(), () -> x.ownerChain(0, day, -1));
        for (int i = 0; i < due.length(); i++) {
            int at = i;
            Due.is(due.charAt(i), () -> x.ownerChain(0, day, at));
        }
        Due.element(() -> x.ownerChain(0, day, due.length()));
    }

    private static void keys() {
        DigHouse x = house();
        Due.element(() -> x.placeKeys(2, 9));
        Due.argument(() -> x.placeKeys(0, 3));
        Due.argument(() -> x.placeKeys(0, -1));
        Due.is(0, () -> x.placeKeys(0, 2));
        Due.is(2, () -> x.placeKeys(0, 1));
        Due.is(0, () -> x.placeKeys(1, 0));
        Due.is(1, () -> x.placeKeys(0, 1));
    }
}
