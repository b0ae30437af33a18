/** rightAgreement, rightLook, rightLooked, rightExport, rightExported, rightRequest, rightLimit, rightIdle, rightCount; ticketSlot, ticketOver. */
public final class Promise20Test {
    public static void main(String[] args) {
        agreements();
        looks();
        exports();
        requests();
        mostRequests();
        idle();
        counts();
        slots();
        Due.end();
    }

    private static int rule(DigHouse x, String text) {
        for (char c : text.toCharArray()) {
            x.rightUnit(c, 0, 0, 0);
        }
        return x.rightRule();
    }

    private static DigHouse house(int objects, int persons) {
        DigHouse x = new DigHouse();
        x.context();
        for (int o = 0; o < objects; o++) {
            x.find(0, o % 4, o - 1);
            x.object(o, 1, 1, 1, 1);
        }
        for (int p = 0; p < persons; p++) {
            x.rightPerson(1 << p);
        }
        return x;
    }

    private static void agreements() {
        DigHouse x = house(2, 2);
        Due.element(() -> x.rightAgreement(2, 0, 5, 4));
        Due.element(() -> x.rightAgreement(0, 2, 5, 4));
        Due.argument(() -> x.rightAgreement(0, 0, 5, 4));
        Due.argument(() -> x.rightAgreement(0, 0, -1, 4));
        Due.argument(() -> x.rightAgreement(0, 0, 0, 100001));
        rule(x, "s g");
        rule(x, "m !g f1");
        Due.is(1, () -> x.rightAgreement(0, 0, 1, 1));
        Due.is(0, () -> x.look(0, 0, 0, 0));
        Due.is(1, () -> x.look(0, 0, 1, 0));
        x.pass(1);
        Due.is(2, () -> x.look(0, 0, 0, 0));
        Due.is(2, () -> x.look(0, 0, 1, 0));
        Due.is(0, () -> x.look(1, 0, 0, 0));
        Due.is(0, () -> x.look(0, 1, 0, 0));
        x.pass(1);
        Due.is(0, () -> x.look(0, 0, 0, 0));
        for (int a = 2; a <= 40; a++) {
            int count = a;
            Due.is(count, () -> x.rightAgreement(1, 1, 0, 100000));
        }
        Due.state(() -> x.rightAgreement(0, 0, 0, 0));
        Due.argument(() -> x.rightAgreement(0, 0, 1, 0));
    }

    private static void looks() {
        DigHouse x = house(2, 3);
        Due.element(() -> x.rightLook(0, 0));
        rule(x, "m");
        x.pass(2);
        x.look(2, 1, 5, 3);
        x.look(0, 1, 5, 3);
        x.look(0, 0, 4, 0);
        int[] due = {2, 1, 5, 3, 2, 1};
        for (int what = 0; what < 6; what++) {
            int w = what;
            Due.is(due[what], () -> x.rightLook(0, w));
        }
        Due.element(() -> x.rightLook(0, 6));
        Due.element(() -> x.rightLook(0, -1));
        Due.element(() -> x.rightLook(3, 0));
        Due.element(() -> x.rightLook(-1, 0));
        int[] persons = {0, 2, -1};
        for (int k = 0; k < 3; k++) {
            int at = k;
            Due.is(persons[k], () -> x.rightLooked(1, at));
        }
        Due.is(-1, () -> x.rightLooked(0, 1));
        Due.element(() -> x.rightLooked(2, 0));
        Due.element(() -> x.rightLooked(0, -1));
    }

    private static void exports() {
        DigHouse x = house(4, 2);
        Due.element(() -> x.rightExport(2, -1));
        Due.argument(() -> x.rightExport(0, -1));
        Due.argument(() -> x.rightExport(0, 100001));
        Due.element(() -> x.rightExported(0));
        rule(x, "m");
        rule(x, "a k2 f3");
        rule(x, "a p2");
        x.rightEmbargo(1, 10);
        Due.is(2, () -> x.rightExport(0, 10));
        Due.is(0, () -> x.rightExported(0));
        Due.is(3, () -> x.rightExported(1));
        Due.element(() -> x.rightExported(2));
        Due.element(() -> x.rightExported(-1));
        rule(x, "a");
        Due.is(3, () -> x.rightExported(1));
        Due.argument(() -> x.rightExport(0, -1));
        Due.is(3, () -> x.rightExported(1));
        Due.is(0, () -> x.rightExport(0, 11));
        Due.element(() -> x.rightExported(0));
        x.rightDrop(3);
        Due.is(3, () -> x.rightExport(0, 11));
        Due.is(1, () -> x.rightExported(1));
    }

    private static void requests() {
        DigHouse x = house(2, 2);
        Due.element(() -> x.rightRequest(2, 0, -1));
        Due.element(() -> x.rightRequest(0, 2, -1));
        Due.argument(() -> x.rightRequest(0, 0, -1));
        Due.argument(() -> x.rightRequest(0, 0, 100001));
        Due.is(1, () -> x.rightRequest(0, 0, 100));
        Due.is(2, () -> x.rightRequest(0, 1, 100));
        Due.is(3, () -> x.rightRequest(0, 1, 129));
        Due.is(-1, () -> x.rightRequest(0, 1, 129));
        Due.is(2, () -> x.rightRequest(0, 1, 130));
        Due.is(1, () -> x.rightRequest(0, 1, 99));
        Due.is(1, () -> x.rightRequest(1, 1, 129));
        Due.is(6, () -> x.rightCount(6));
        Due.element(() -> x.rightLimit(2, 61));
        Due.argument(() -> x.rightLimit(0, 61));
        Due.argument(() -> x.rightLimit(0, -1));
        Due.is(3, () -> x.rightLimit(0, 0));
        Due.is(-1, () -> x.rightRequest(0, 1, 1000));
        Due.is(0, () -> x.rightLimit(0, 60));
        Due.is(4, () -> x.rightRequest(0, 1, 129));
        Due.is(3, () -> x.rightLimit(1, 1));
    }

    private static void mostRequests() {
        DigHouse x = house(1, 1);
        x.rightLimit(0, 60);
        for (int r = 1; r <= 60; r++) {
            int count = r;
            Due.is(count, () -> x.rightRequest(0, 0, 5));
        }
        Due.state(() -> x.rightRequest(0, 0, 5));
        Due.argument(() -> x.rightRequest(0, 0, -1));
        Due.is(60, () -> x.rightCount(6));
    }

    private static void idle() {
        DigHouse x = house(2, 2);
        Due.is(-1, () -> x.rightIdle(0));
        Due.argument(() -> x.rightIdle(-1));
        Due.argument(() -> x.rightIdle(100001));
        rule(x, "s");
        Due.is(-1, () -> x.rightIdle(0));
        rule(x, "s r1");
        Due.is(1, () -> x.rightIdle(0));
        rule(x, "m r0");
        Due.is(0, () -> x.rightIdle(0));
        x.rightDrop(1);
        Due.is(-1, () -> x.rightIdle(0));
        rule(x, "a k3");
        Due.is(3, () -> x.rightIdle(0));
        rule(x, "a k0");
        rule(x, "a k0 f1");
        Due.is(3, () -> x.rightIdle(0));
        x.rightDrop(3);
        Due.is(5, () -> x.rightIdle(0));
        x.rightEmbargo(0, 9);
        x.rightEmbargo(1, 9);
        Due.is(0, () -> x.rightIdle(9));
        Due.is(5, () -> x.rightIdle(10));
        DigHouse y = house(0, 1);
        rule(y, "s");
        Due.is(0, () -> y.rightIdle(0));
    }

    private static void counts() {
        DigHouse x = house(3, 2);
        rule(x, "s");
        rule(x, "m");
        x.rightDrop(0);
        x.look(0, 0, 0, 0);
        x.rightRequest(0, 0, 0);
        x.rightUnit(1, 0, 0, 0);
        int[] due = {1, 2, 1, 2, 3, 1, 1};
        for (int what = 0; what < 7; what++) {
            int w = what;
            Due.is(due[what], () -> x.rightCount(w));
        }
        Due.argument(() -> x.rightCount(7));
        Due.argument(() -> x.rightCount(-1));
    }

    private static void slots() {
        DigHouse x = new DigHouse();
        Due.argument(() -> x.ticketSlot(0));
        Due.argument(() -> x.ticketSlot(21));
        Due.index(() -> x.ticketOver(0, 5, 4, 9, 8));
        for (int s = 0; s < 8; s++) {
            int slot = s;
            Due.is(slot, () -> x.ticketSlot(slot + 13));
        }
        Due.state(() -> x.ticketSlot(0));
        Due.argument(() -> x.ticketOver(0, 0, 0, 0, 1));
        Due.argument(() -> x.ticketOver(0, 0, 17, 0, 1));
        Due.argument(() -> x.ticketOver(0, 5, 4, 0, 1));
        Due.argument(() -> x.ticketOver(0, -1, 4, 0, 1));
        Due.argument(() -> x.ticketOver(0, 1, 4, 0, 0));
        Due.argument(() -> x.ticketOver(0, 1, 4, 0, 1001));
        Due.argument(() -> x.ticketOver(0, 1, 4, 2, 1));
        Due.argument(() -> x.ticketOver(0, 1, 4, -1, 1));
        Due.is(13, () -> x.ticketMost(0));
        x.ticketOver(0, 0, 16, 0, 1000);
        Due.is(21, () -> x.ticketMost(0));
        x.ticketOver(0, 1, 1, 1000, 1000);
        Due.is(21, () -> x.ticketMost(0));
        x.ticketOver(0, 1, 1, 999, 1000);
        Due.is(13, () -> x.ticketMost(0));
    }
}
