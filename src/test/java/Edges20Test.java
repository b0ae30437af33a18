import java.util.function.Supplier;

/** The edges of promise 20: rightAgreement up to rightCount, ticketSlot, ticketOver. */
public final class Edges20Test {
    private static final int MIN = Integer.MIN_VALUE;
    private static final int MAX = Integer.MAX_VALUE;

    public static void main(String[] args) {
        bounds();
        agreements();
        keptLooks();
        lookers();
        exports();
        requests();
        limits();
        mostRequests();
        idle();
        counts();
        slots();
        over();
        Due.end();
    }

    private static DigHouse rights() {
        DigHouse x = Houses.objects(10);
        for (int p = 0; p < 12; p++) {
            x.rightPerson(0);
        }
        Houses.rule(x, "s");
        return x;
    }

    private static DigHouse agreements(int count) {
        DigHouse x = rights();
        for (int a = 1; a <= count; a++) {
            int agreement = a;
            Due.is(agreement, () -> x.rightAgreement(agreement % 12, agreement % 10, 0, 100000));
        }
        return x;
    }

    private static DigHouse looks(int count) {
        DigHouse x = rights();
        for (int l = 0; l < count; l++) {
            x.look(11, 9, 5, 3);
        }
        return x;
    }

    private static DigHouse requests(int count) {
        DigHouse x = rights();
        for (int q = 0; q < count; q++) {
            x.rightRequest(q % 12, q % 10, 1000 * q);
        }
        return x;
    }

    private static DigHouse slots(int count) {
        DigHouse x = new DigHouse();
        for (int s = 0; s < count; s++) {
            int slot = s;
            Due.is(slot, () -> x.ticketSlot(20));
        }
        return x;
    }

    private static void bounds() {
        Supplier<DigHouse> house = Edges20Test::rights;
        Bounds.of(house, "rightAgreement", 3, 4, 50, 60).element(0, 0, 11).element(1, 0, 9).argument(2, 0, 60).argument(3, 50, 100000)
            .hold().full(() -> agreements(40));
        Bounds.of(() -> looks(100), "rightLook", 3, 4).element(0, 0, 99).element(1, 0, 5).hold();
        Bounds.of(() -> looks(1), "rightLook", 0, 4).element(0, 0, 0).element(1, 0, 5).hold();
        Bounds.of(house, "rightLooked", 3, 1).element(0, 0, 9).element(1, 0, MAX).hold();
        Bounds.of(house, "rightExport", 3, 50).element(0, 0, 11).argument(1, 0, 100000).hold();
        Bounds.of(() -> {
            DigHouse x = rights();
            x.rightExport(0, 0);
            return x;
        }, "rightExported", 3).element(0, 0, 9).hold();
        Bounds.of(house, "rightRequest", 3, 4, 50).element(0, 0, 11).element(1, 0, 9).argument(2, 0, 100000).hold().full(() -> requests(60));
        Bounds.of(house, "rightLimit", 3, 4).element(0, 0, 11).argument(1, 0, 60).hold();
        Bounds.of(house, "rightIdle", 50).argument(0, 0, 100000).hold();
        Bounds.of(house, "rightCount", 3).argument(0, 0, 6).hold();
        Bounds.of(() -> slots(7), "ticketSlot", 3).argument(0, 1, 20).hold().full(() -> slots(8));
        Supplier<DigHouse> eight = () -> slots(8);
        Bounds.of(eight, "ticketOver", 3, 0, 16, 0, 1000).index(0, 0, 7).argument(1, 0, 16).argument(2, 1, 16).argument(3, 0, 1000)
            .argument(4, 1, 1000).hold();
        Bounds.of(eight, "ticketOver", 3, 5, 5, 7, 7).index(0, 0, 7).argument(1, 0, 5).argument(2, 5, 16).argument(3, 0, 7)
            .argument(4, 7, 1000).hold();
        DigHouse none = new DigHouse();
        Due.element(() -> none.rightAgreement(0, 0, 1, 0));
        Due.element(() -> none.rightLook(0, 0));
        Due.element(() -> none.rightLooked(0, 0));
        Due.element(() -> none.rightExport(0, -1));
        Due.element(() -> none.rightExported(0));
        Due.element(() -> none.rightRequest(0, 0, -1));
        Due.element(() -> none.rightLimit(0, 61));
        Due.is(-1, () -> none.rightIdle(0));
        Due.index(() -> none.ticketOver(0, 2, 1, 2, 1));
    }

    /** An agreement holds from its first day to its last one, for its person and its record. */
    private static void agreements() {
        DigHouse x = Houses.objects(2);
        x.rightPerson(0);
        x.rightPerson(0);
        Houses.rule(x, "s g");
        x.rightAgreement(0, 0, 1, 2);
        x.rightAgreement(0, 1, 0, 0);
        Due.is(0, () -> x.look(0, 0, 0, 0));
        Due.is(2, () -> x.look(0, 1, 0, 0));
        for (int day = 1; day <= 2; day++) {
            x.pass(1);
            Due.is(2, () -> x.look(0, 0, 0, 0));
            Due.is(0, () -> x.look(0, 1, 0, 0));
            Due.is(0, () -> x.look(1, 0, 0, 0));
        }
        x.pass(1);
        Due.is(0, () -> x.look(0, 0, 0, 0));
        Due.argument(() -> x.rightAgreement(0, 0, 6, 5));
        Due.is(3, () -> x.rightAgreement(1, 0, 3, 3));
        Due.is(2, () -> x.look(1, 0, 0, 0));
        DigHouse y = agreements(40);
        Due.state(() -> y.rightAgreement(0, 0, 0, 0));
        Due.argument(() -> y.rightAgreement(0, 0, 1, 0));
        Due.element(() -> y.rightAgreement(12, 0, 1, 0));
    }

    private static void keptLooks() {
        DigHouse x = rights();
        Houses.rule(x, "m f5");
        Houses.rule(x, "a f4");
        x.look(11, 9, 0, 3);
        x.pass(1000);
        x.look(0, 0, 4, 0);
        x.look(3, 2, 5, 1);
        int[][] due = {{11, 9, 0, 3, 0, 2}, {3, 2, 5, 1, 1000, 1}};
        for (int k = 0; k < 2; k++) {
            for (int what = 0; what < 6; what++) {
                int look = k;
                int w = what;
                Due.is(due[look][w], () -> x.rightLook(look, w));
            }
        }
        Due.element(() -> x.rightLook(2, 0));
        Due.element(() -> x.rightLook(0, 6));
        Due.element(() -> x.rightLook(-1, 6));
    }

    /** Each person once, by numbers. */
    private static void lookers() {
        DigHouse x = rights();
        Houses.rule(x, "a f4");
        for (int person : new int[] {11, 0, 5, 11, 0}) {
            x.look(person, 9, 0, 0);
        }
        x.look(7, 9, 4, 0);
        x.look(7, 8, 0, 0);
        int[] due = {0, 5, 11, -1};
        for (int k = 0; k < 4; k++) {
            int at = k;
            Due.is(due[at], () -> x.rightLooked(9, at));
        }
        Due.is(-1, () -> x.rightLooked(9, MAX));
        Due.is(7, () -> x.rightLooked(8, 0));
        Due.is(-1, () -> x.rightLooked(0, 0));
    }

    /** Records of which no field is absent for purpose 3; the latest export stays as it was. */
    private static void exports() {
        DigHouse x = rights();
        Due.element(() -> x.rightExported(0));
        Due.is(10, () -> x.rightExport(0, 0));
        for (int k = 0; k < 10; k++) {
            int at = k;
            Due.is(at, () -> x.rightExported(at));
        }
        Due.element(() -> x.rightExported(10));
        x.rightEmbargo(0, 5);
        x.rightEmbargo(9, 100000);
        Due.is(9, () -> x.rightExported(9));
        Due.argument(() -> x.rightExport(0, -1));
        Due.is(9, () -> x.rightExported(9));
        Due.is(8, () -> x.rightExport(0, 5));
        Due.is(1, () -> x.rightExported(0));
        Due.is(8, () -> x.rightExported(7));
        Due.element(() -> x.rightExported(8));
        Due.is(9, () -> x.rightExport(0, 6));
        Due.is(0, () -> x.rightExported(0));
        int rule = Houses.rule(x, "a f5 p2");
        Due.is(9, () -> x.rightExport(0, 6));
        Houses.rule(x, "m f0");
        Due.is(9, () -> x.rightExport(0, 6));
        int last = Houses.rule(x, "a f5 p3");
        Due.is(0, () -> x.rightExport(0, 6));
        Due.element(() -> x.rightExported(0));
        x.rightDrop(last);
        x.rightDrop(rule);
        Houses.rule(x, "a f0 !p2");
        Due.is(0, () -> x.rightExport(0, 6));
        DigHouse none = new DigHouse();
        none.rightPerson(0);
        Due.is(0, () -> none.rightExport(0, 100000));
        Due.element(() -> none.rightExported(0));
    }

    /** The thirty days that end with the day: the day thirty days ago does not count, nor do later days. */
    private static void requests() {
        DigHouse x = rights();
        x.rightLimit(0, 60);
        Due.is(1, () -> x.rightRequest(0, 0, 100));
        Due.is(2, () -> x.rightRequest(0, 9, 129));
        Due.is(2, () -> x.rightRequest(0, 0, 130));
        Due.is(1, () -> x.rightRequest(0, 0, 99));
        Due.is(1, () -> x.rightRequest(0, 0, 0));
        Due.is(2, () -> x.rightRequest(0, 0, 29));
        Due.is(2, () -> x.rightRequest(0, 0, 30));
        Due.is(1, () -> x.rightRequest(1, 0, 100));
        Due.is(1, () -> x.rightRequest(0, 0, 100000));
        Due.is(2, () -> x.rightRequest(0, 0, 100000));
        Due.is(1, () -> x.rightRequest(0, 0, 99970));
        Due.is(2, () -> x.rightRequest(0, 0, 99971));
        Due.is(4, () -> x.rightRequest(0, 0, 100000));
    }

    /** Up to the limit, three at first; what is too much is not kept. */
    private static void limits() {
        DigHouse x = rights();
        for (int k = 1; k <= 3; k++) {
            int count = k;
            Due.is(count, () -> x.rightRequest(0, 0, 50));
        }
        Due.is(-1, () -> x.rightRequest(0, 0, 50));
        Due.is(3, () -> x.rightCount(6));
        Due.is(-1, () -> x.rightRequest(0, 0, 79));
        Due.is(1, () -> x.rightRequest(0, 0, 80));
        Due.is(1, () -> x.rightRequest(11, 0, 50));
        Due.is(3, () -> x.rightLimit(0, 0));
        Due.is(-1, () -> x.rightRequest(0, 0, 5000));
        Due.is(0, () -> x.rightLimit(0, 1));
        Due.is(1, () -> x.rightRequest(0, 0, 5000));
        Due.is(-1, () -> x.rightRequest(0, 0, 5000));
        Due.is(1, () -> x.rightLimit(0, 60));
        Due.is(2, () -> x.rightRequest(0, 0, 5000));
        Due.is(60, () -> x.rightLimit(0, 60));
        Due.argument(() -> x.rightLimit(0, 61));
        Due.is(3, () -> x.rightLimit(1, 3));
    }

    /** Sixty are kept; behind these the state is told, not that it is too many. */
    private static void mostRequests() {
        DigHouse x = rights();
        x.rightLimit(0, 60);
        for (int k = 1; k <= 60; k++) {
            int count = k;
            Due.is(count, () -> x.rightRequest(0, 0, 50));
        }
        Due.is(60, () -> x.rightCount(6));
        Due.state(() -> x.rightRequest(0, 0, 50));
        Due.state(() -> x.rightRequest(1, 0, 50));
        x.rightLimit(1, 0);
        Due.state(() -> x.rightRequest(1, 0, 50));
        Due.argument(() -> x.rightRequest(1, 0, 100001));
    }

    /** The first told rule that changes nothing, on that day. */
    private static void idle() {
        DigHouse x = Houses.objects(1);
        Due.is(-1, () -> x.rightIdle(0));
        Houses.rule(x, "s");
        Due.is(0, () -> x.rightIdle(0));
        x.rightPerson(0);
        Due.is(-1, () -> x.rightIdle(0));
        Houses.rule(x, "s");
        Due.is(0, () -> x.rightIdle(0));
        x.rightDrop(0);
        Due.is(-1, () -> x.rightIdle(0));
        Houses.rule(x, "m k3");
        Due.is(2, () -> x.rightIdle(0));
        Houses.rule(x, "a g");
        Due.is(2, () -> x.rightIdle(0));
        x.rightDrop(2);
        Due.is(3, () -> x.rightIdle(0));
        x.rightAgreement(0, 0, 5, 6);
        Due.is(3, () -> x.rightIdle(4));
        // Where a rule of ABSENT suits, the others are idle.
        Due.is(1, () -> x.rightIdle(5));
        Due.is(1, () -> x.rightIdle(6));
        Due.is(3, () -> x.rightIdle(7));
        // Under embargo nothing is got, whatever the rules say.
        x.rightEmbargo(0, 5);
        Due.is(1, () -> x.rightIdle(5));
        Due.is(3, () -> x.rightIdle(7));
        x.rightPerson(128);
        Due.is(3, () -> x.rightIdle(5));
        // One field, one purpose alone is enough.
        DigHouse y = Houses.objects(1);
        y.rightPerson(0);
        Houses.rule(y, "s !f5");
        Houses.rule(y, "s !p3");
        Due.is(-1, () -> y.rightIdle(0));
        Houses.rule(y, "s f5 p3");
        Due.is(-1, () -> y.rightIdle(0));
        Houses.rule(y, "s f5 p2");
        Due.is(3, () -> y.rightIdle(0));
        Due.yes(() -> y.rightDrop(1));
        Due.is(-1, () -> y.rightIdle(0));
    }

    private static void counts() {
        DigHouse x = rights();
        Houses.rule(x, "m");
        x.rightDrop(0);
        x.rightUnit(1, 1, 1, 1);
        x.look(0, 0, 0, 0);
        x.rightRequest(0, 0, 0);
        x.rightRequest(0, 0, 0);
        int[] due = {4, 2, 1, 12, 10, 1, 2};
        for (int what = 0; what < 7; what++) {
            int w = what;
            Due.is(due[w], () -> x.rightCount(w));
        }
    }

    /** Eight slots; the state is asked ahead of places. */
    private static void slots() {
        DigHouse x = slots(8);
        Due.state(() -> x.ticketSlot(0));
        Due.state(() -> x.ticketSlot(21));
        DigHouse y = new DigHouse();
        Due.argument(() -> y.ticketSlot(0));
        Due.argument(() -> y.ticketSlot(21));
        Due.argument(() -> y.ticketSlot(MIN));
        Due.is(0, () -> y.ticketSlot(1));
        Due.is(1, () -> y.ticketMost(0));
    }

    /** Above up to below, at both fractions; a refused one changes nothing. */
    private static void over() {
        DigHouse x = slots(1);
        Due.is(20, () -> x.ticketMost(0));
        x.ticketOver(0, 0, 1, 0, 1);
        Due.is(28, () -> x.ticketMost(0));
        Due.argument(() -> x.ticketOver(0, 2, 1, 0, 1));
        Due.argument(() -> x.ticketOver(0, 17, 17, 0, 1));
        Due.argument(() -> x.ticketOver(0, 0, 0, 0, 1));
        Due.argument(() -> x.ticketOver(0, 0, 1, 2, 1));
        Due.argument(() -> x.ticketOver(0, 0, 1, 1001, 1001));
        Due.argument(() -> x.ticketOver(0, 0, 1, 0, 0));
        Due.argument(() -> x.ticketOver(0, -1, 1, 0, 1));
        Due.argument(() -> x.ticketOver(0, 0, 1, -1, 1));
        Due.index(() -> x.ticketOver(1, 2, 1, 2, 1));
        Due.is(28, () -> x.ticketMost(0));
        x.ticketOver(0, 16, 16, 999, 1000);
        Due.is(20, () -> x.ticketMost(0));
        x.ticketOver(0, 16, 16, 1000, 1000);
        Due.is(28, () -> x.ticketMost(0));
        x.ticketOver(0, 1, 1, 1, 1);
        Due.is(28, () -> x.ticketMost(0));
    }
}
