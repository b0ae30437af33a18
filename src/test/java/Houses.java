import java.util.function.IntConsumer;

/** Houses in which something stands already, for tests that begin there. */
final class Houses {
    private Houses() {
    }

    static DigHouse contexts(int count) {
        DigHouse x = new DigHouse();
        for (int c = 0; c < count; c++) {
            x.context();
        }
        return x;
    }

    /** Contexts, one above the next one. */
    static DigHouse stack(int count) {
        DigHouse x = contexts(count);
        for (int c = 1; c < count; c++) {
            x.layerRelate(c - 1, c, 0);
        }
        return x;
    }

    /** Contexts, a curve with a row for each year, and dates by it. */
    static DigHouse curve(int contexts, int dates) {
        DigHouse x = contexts(contexts);
        for (int y = 0; y < 12; y++) {
            x.curveRow(y, 400 - 10 * y, 10);
        }
        for (int d = 0; d < dates; d++) {
            x.curveDate(400 - 9 * d, 12);
        }
        return x;
    }

    /** Contexts of which the first ones have a date each, solved. */
    static DigHouse solved(int contexts, int dated) {
        DigHouse x = curve(contexts, 6);
        for (int c = 0; c < dated; c++) {
            x.dated(c, c);
        }
        x.solve();
        return x;
    }

    /** Objects of one context, 10 by 20 by 30 and 100 grams. */
    static DigHouse objects(int count) {
        DigHouse x = contexts(1);
        for (int o = 0; o < count; o++) {
            x.find(0, 0, -1);
            x.object(o, 30, 10, 20, 100);
        }
        return x;
    }

    /** Ten objects, 24 places that lie in none, the first four of them rooms. */
    static DigHouse museum() {
        DigHouse x = objects(10);
        for (int p = 0; p < 24; p++) {
            x.place(-1, 1000000000);
        }
        for (int p = 0; p < 4; p++) {
            x.room(p);
        }
        return x;
    }

    /** Four rooms. */
    static DigHouse rooms() {
        DigHouse x = new DigHouse();
        for (int p = 0; p < 4; p++) {
            x.place(-1, 1000);
            x.room(p);
        }
        return x;
    }

    /** Four rooms in which so many hours were run, with 20000 degrees and a damp of 10000 outside. */
    static DigHouse hours(int count) {
        DigHouse x = rooms();
        for (int h = 0; h < count; h++) {
            x.hour(20000, 10000);
        }
        return x;
    }

    static DigHouse methods(int objects, int count, String text) {
        DigHouse x = objects(objects);
        for (int m = 0; m < count; m++) {
            method(x, text);
        }
        return x;
    }

    static int method(DigHouse x, String text) {
        signs(text, x::methodUnit);
        return x.methodRead();
    }

    static DigHouse contracts(int objects, int count, String text) {
        DigHouse x = objects(objects);
        for (int c = 0; c < count; c++) {
            contract(x, text);
        }
        return x;
    }

    static int contract(DigHouse x, String text) {
        signs(text, x::termUnit);
        return x.termRead();
    }

    /** Loans of object 0 under one contract, for a day each. */
    static DigHouse loans(int count) {
        DigHouse x = contracts(1, 1, "z<2");
        for (int l = 0; l < count; l++) {
            x.lend(0, 0, l, l);
        }
        return x;
    }

    static int curveText(DigHouse x, String text) {
        signs(text, sign -> x.curveUnit(sign, 0));
        return x.curveRead();
    }

    static int rule(DigHouse x, String text) {
        signs(text, sign -> x.rightUnit(sign, 0, 0, 0));
        return x.rightRule();
    }

    static int prices(DigHouse x, String text) {
        signs(text, x::ticketUnit);
        return x.ticketRules();
    }

    static void signs(String text, IntConsumer unit) {
        for (char c : text.toCharArray()) {
            unit.accept(c);
        }
    }

    static String repeated(String text, int count) {
        StringBuilder all = new StringBuilder();
        for (int i = 0; i < count; i++) {
            all.append(text);
        }
        return all.toString();
    }
}
