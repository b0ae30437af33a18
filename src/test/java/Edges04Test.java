import java.util.function.Supplier;

/** The edges of promise 4: origin, from, year, look, shown, present, light, warm, inRoom, broken, had. */
public final class Edges04Test {
    public static void main(String[] args) {
        bounds();
        origins();
        years();
        looks();
        mostLooks();
        values();
        masks();
        brokenLoans();
        counts();
        Due.end();
    }

    private static DigHouse full() {
        DigHouse x = Houses.museum();
        for (int p = 0; p < 12; p++) {
            x.rightPerson(p);
        }
        for (int c = 0; c < 24; c++) {
            x.claimNew();
        }
        return x;
    }

    private static void bounds() {
        Supplier<DigHouse> house = Edges04Test::full;
        Bounds.of(house, "origin", 3, 4).element(0, 0, 9).element(1, -1, 23).hold();
        Bounds.of(house, "from", 3).element(0, 0, 9).hold();
        Bounds.of(house, "look", 3, 4, 5, 2).element(0, 0, 11).element(1, 0, 9).element(2, 0, 5).element(3, 0, 3).hold();
        Bounds.of(house, "light", 3).element(0, 0, 9).hold();
        Bounds.of(house, "warm", 3).element(0, 0, 9).hold();
        Bounds.of(house, "inRoom", 3).element(0, 0, 9).hold();
        Bounds.of(() -> Houses.loans(20), "broken", 3).index(0, 0, 19).hold();
        Bounds.of(house, "had", 3).element(0, 0, 5).hold();
        Bounds.of(house, "present").hold();
        Bounds.of(() -> {
            DigHouse x = full();
            x.look(0, 0, 0, 0);
            return x;
        }, "shown").hold().full(Edges04Test::full);
        DigHouse none = new DigHouse();
        Due.element(() -> none.from(0));
        Due.element(() -> none.look(0, 0, 0, 0));
        Due.index(() -> none.broken(0));
        Due.element(() -> none.year(0, 0, 0));
    }

    /** What is agreed is a context from 0 to the last one; else the find's one counts. */
    private static void origins() {
        DigHouse x = Houses.contexts(3);
        x.find(1, 0, 0);
        x.object(0, 1, 1, 1, 1);
        x.claimSource(0, 0);
        x.claimNew();
        x.claimRests(0, 0, true);
        Due.is(1, () -> x.from(0));
        Due.is(-1, () -> x.origin(0, 0));
        Due.is(1, () -> x.from(0));
        int[][] due = {{0, 0}, {2, 2}, {3, 1}, {99, 1}, {1, 1}};
        for (int[] row : due) {
            x.claimOpinion(0, 0, row[0], 0, 0);
            Due.is(row[1], () -> x.from(0));
        }
        x.claimOpinion(0, 0, 3, 0, 0);
        x.context();
        Due.is(3, () -> x.from(0));
        x.claimOpinion(1, 0, 2, 0, 0);
        Due.is(1, () -> x.from(0));
        // An opinion of day 1 is known from hour 24 on.
        x.claimOpinion(1, 0, 3, 1, 0);
        Due.is(1, () -> x.from(0));
        for (int h = 0; h < 23; h++) {
            x.hour(0, 0);
        }
        Due.is(1, () -> x.from(0));
        x.hour(0, 0);
        Due.is(3, () -> x.from(0));
        // What is told of an object's light is nothing to its origin.
        Due.is(-1, () -> x.spare(0, 7));
        Due.is(3, () -> x.from(0));
        Due.is(0, () -> x.origin(0, -1));
        Due.is(7, () -> x.spare(0, 8));
        Due.is(1, () -> x.from(0));
        Due.is(-1, () -> x.origin(0, -1));
    }

    /** Object ahead of what is solved, and that ahead of date, year and digit. */
    private static void years() {
        DigHouse x = Houses.curve(2, 1);
        x.find(0, 0, 0);
        x.find(1, 0, 0);
        x.object(0, 1, 1, 1, 1);
        x.object(1, 1, 1, 1, 1);
        Due.element(() -> x.year(2, 0, 0));
        Due.element(() -> x.year(-1, 0, 0));
        Due.state(() -> x.year(0, 0, 0));
        Due.state(() -> x.year(0, 12, 48));
        Due.state(() -> x.year(1, Integer.MIN_VALUE, Integer.MAX_VALUE));
        x.dated(0, 0);
        x.solve();
        Due.is(12 * 999 % 10, () -> x.year(0, 0, 0));
        Due.is(1, () -> x.year(0, 0, 4));
        Due.is(0, () -> x.year(0, 11, 47));
        Due.element(() -> x.year(0, 12, 0));
        Due.element(() -> x.year(0, -1, 0));
        Due.element(() -> x.year(0, 0, 48));
        Due.element(() -> x.year(0, 0, -1));
        Due.element(() -> x.year(0, Integer.MAX_VALUE, 0));
        Due.element(() -> x.year(0, 0, Integer.MIN_VALUE));
        Due.element(() -> x.year(1, 0, 0));
        // As it was when it was solved: later dates don't matter.
        x.dated(1, 0);
        x.dated(0, -1);
        Due.element(() -> x.year(1, 0, 0));
        Due.is(1, () -> x.year(0, 0, 4));
        x.solve();
        Due.is(1, () -> x.year(1, 0, 4));
        Due.element(() -> x.year(0, 0, 0));
        x.dated(0, 0);
        x.layerRelate(0, 1, 3);
        x.member(0, true);
        x.member(1, true);
        Due.is(2, () -> x.solve());
        Due.state(() -> x.year(1, 0, 0));
        Due.element(() -> x.year(2, 0, 0));
    }

    private static void looks() {
        DigHouse x = Houses.objects(1);
        x.rightPerson(0);
        Due.state(() -> x.shown());
        Due.element(() -> x.look(1, 0, 0, 0));
        Due.state(() -> x.shown());
        // No rule: absent, and yet it was a look.
        Due.is(0, () -> x.look(0, 0, 0, 0));
        Due.is(0, () -> x.shown());
        Due.is(0, () -> x.rightCount(5));
        Houses.rule(x, "s");
        Due.is(2, () -> x.look(0, 0, 0, 0));
        Due.is(-1, () -> x.shown());
        Due.is(2, () -> x.look(0, 0, 3, 3));
        Due.is(-1000000, () -> x.shown());
        Due.is(2, () -> x.rightCount(5));
        Due.element(() -> x.look(0, 0, 6, 0));
        Due.is(-1000000, () -> x.shown());
    }

    /** A hundred looks are kept; further ones answer as the others, but are not. */
    private static void mostLooks() {
        DigHouse x = Houses.objects(1);
        x.rightPerson(0);
        x.rightPerson(0);
        Houses.rule(x, "s");
        for (int i = 0; i < 99; i++) {
            x.look(0, 0, i % 6, i % 4);
        }
        Due.is(99, () -> x.rightCount(5));
        Due.is(2, () -> x.look(0, 0, 5, 1));
        Due.is(100, () -> x.rightCount(5));
        Due.is(2, () -> x.look(1, 0, 4, 2));
        Due.is(0, () -> x.shown());
        Due.is(100, () -> x.rightCount(5));
        Due.is(5, () -> x.rightLook(99, 2));
        Due.element(() -> x.rightLook(100, 0));
        Due.is(-1, () -> x.rightLooked(0, 1));
    }

    /** The values of the fields: those of the present hour and day. */
    private static void values() {
        DigHouse x = Houses.methods(1, 1, "");
        x.methodRight(0, 0, true);
        x.rightPerson(0);
        Houses.rule(x, "s");
        x.context();
        x.place(-1, 1000);
        x.room(0);
        x.lamp(0, 77);
        shows(x, -1, 0, -1, -1000000, 0, 0);
        x.carry(0, 0, 0, 0);
        x.treat(0, 0, 0, 0);
        x.ownerWorth(0, 0, 0, Integer.MAX_VALUE);
        x.ownerWorth(0, 1, 0, 5);
        x.ownerWorth(0, 0, 1, 6);
        x.hour(20000, 10000);
        shows(x, 0, 77, Integer.MAX_VALUE, 20000, 0, 1);
        for (int h = 1; h < 24; h++) {
            x.hour(20000, 10000);
        }
        shows(x, 0, 24 * 77, 5, 20000, 0, 1);
        x.lose(0);
        shows(x, -1, 24 * 77, 5, 20000, 0, 1);
    }

    private static void shows(DigHouse x, long... due) {
        for (int field = 0; field < 6; field++) {
            int f = field;
            Due.is(2, () -> x.look(0, 0, f, 0));
            Due.is(due[field], () -> x.shown());
        }
    }

    /** Masked: the last three digits become 0, without the sign. */
    private static void masks() {
        DigHouse x = Houses.objects(1);
        x.rightPerson(0);
        Houses.rule(x, "m");
        int[][] due = {{0, 0}, {999, 0}, {1000, 1000}, {1999, 1000}, {Integer.MAX_VALUE, 2147483000}};
        for (int[] row : due) {
            x.ownerWorth(0, 0, 0, row[0]);
            Due.is(1, () -> x.look(0, 0, 2, 0));
            Due.is(row[1], () -> x.shown());
        }
        Due.is(1, () -> x.look(0, 0, 0, 0));
        Due.is(0, () -> x.shown());
        Due.is(1, () -> x.look(0, 0, 3, 0));
        Due.is(-1000000, () -> x.shown());
        x.place(-1, 1000);
        x.room(0);
        x.roomSize(0, 1, 1000);
        x.carry(0, 0, 0, 0);
        int[][] degrees = {{-59999, -59000}, {-1999, -1000}, {-1000, -1000}, {-999, 0}};
        for (int[] row : degrees) {
            x.hour(row[0], 0);
            Due.is(row[0], () -> x.warm(0));
            x.look(0, 0, 3, 0);
            Due.is(row[1], () -> x.shown());
        }
    }

    /** NONE ahead of the first hour and behind the last day; else 0, or 1 and the first broken term. */
    private static void brokenLoans() {
        DigHouse x = Houses.contracts(1, 1, "y<9;y<1;y<0;y<1");
        x.lend(0, 0, 1, 2);
        Due.is(-1, () -> x.broken(0));
        Due.index(() -> x.broken(1));
        x.hour(0, 0);
        Due.is(-1, () -> x.broken(0));
        x.pass(1);
        Due.is(-1, () -> x.broken(0));
        x.hour(0, 0);
        Due.is(3, () -> x.broken(0));
        x.pass(1);
        Due.is(3, () -> x.broken(0));
        x.hour(0, 0);
        Due.is(2, () -> x.broken(0));
        x.pass(1);
        Due.is(2, () -> x.broken(0));
        x.hour(0, 0);
        Due.is(-1, () -> x.broken(0));
    }

    private static void counts() {
        DigHouse x = Houses.museum();
        x.hour(0, 0);
        x.save();
        x.hour(0, 0);
        int[] due = {10, 10, 4, 2, 51, 50};
        for (int what = 0; what < 6; what++) {
            int w = what;
            Due.is(due[w], () -> x.had(w));
        }
    }
}
