/** ticketMost, ticketOdds, ticketSell, ticketBack, ticketWaits, ticketGiven, ticketUnit, ticketRules, ticketPrice, ticketAbout, ticketCode. */
public final class Promise21Test {
    public static void main(String[] args) {
        odds();
        selling();
        mostTickets();
        waiting();
        mostWaiting();
        pads();
        rules();
        prices();
        codes();
        Due.end();
    }

    /** Two places, each guest comes with odds of a half: of three all come by 1 of 8, of four three or four by 5 of 16. */
    private static void odds() {
        DigHouse x = new DigHouse();
        Due.index(() -> x.ticketMost(0));
        Due.index(() -> x.ticketOdds(0, -1, -1));
        x.ticketSlot(2);
        x.ticketOver(0, 1, 2, 1, 8);
        Due.is(3, () -> x.ticketMost(0));
        x.ticketOver(0, 1, 2, 124, 1000);
        Due.is(2, () -> x.ticketMost(0));
        x.ticketOver(0, 1, 2, 5, 16);
        Due.is(4, () -> x.ticketMost(0));
        Due.is(1, () -> x.ticketOdds(0, 3, 0));
        Due.is(5, () -> x.ticketOdds(0, 4, 0));
        Due.is(0, () -> x.ticketOdds(0, 2, 0));
        Due.is(0, () -> x.ticketOdds(0, 0, 39));
        x.ticketOver(0, 2, 4, 5, 16);
        Due.is(0, () -> x.ticketOdds(0, 4, 0));
        Due.is(8, () -> x.ticketOdds(0, 4, 1));
        Due.index(() -> x.ticketOdds(0, 29, 40));
        Due.index(() -> x.ticketOdds(0, 0, -1));
        Due.index(() -> x.ticketOdds(1, 0, 0));
        Due.argument(() -> x.ticketOdds(0, 29, 0));
        Due.argument(() -> x.ticketOdds(0, -1, 0));
        x.ticketOver(0, 16, 16, 0, 1);
        String all = new java.math.BigInteger("16").pow(28).toString();
        for (int k = 0; k < 40; k++) {
            int at = k;
            Due.is(k < all.length() ? all.charAt(all.length() - 1 - k) - '0' : 0, () -> x.ticketOdds(0, 28, at));
        }
        Due.index(() -> x.ticketMost(-1));
    }

    private static void selling() {
        DigHouse x = new DigHouse();
        Due.index(() -> x.ticketSell(0, 0, 0));
        x.ticketSlot(5);
        Due.index(() -> x.ticketSell(0, 0, 5));
        Due.index(() -> x.ticketSell(0, 0, -1));
        Due.argument(() -> x.ticketSell(0, 0, 0));
        Due.argument(() -> x.ticketSell(0, 10, 0));
        Due.is(-1, () -> x.ticketSell(0, 6, 0));
        Due.is(0, () -> x.ticketSell(0, 3, 4));
        Due.is(-1, () -> x.ticketSell(0, 3, 0));
        Due.is(1, () -> x.ticketSell(0, 2, 0));
        Due.is(-1, () -> x.ticketSell(0, 1, 0));
        Due.index(() -> x.ticketBack(2));
        Due.index(() -> x.ticketBack(-1));
        Due.is(0, () -> x.ticketBack(0));
        Due.is(-1, () -> x.ticketBack(0));
        Due.is(2, () -> x.ticketSell(0, 3, 0));
        x.ticketRead(4, 1, 0);
        Due.is(-1, () -> x.ticketBack(1));
        x.ticketOver(0, 1, 2, 1, 1);
        Due.is(3, () -> x.ticketSell(0, 8, 0));
        x.ticketOver(0, 1, 1, 0, 1);
        Due.is(-1, () -> x.ticketSell(0, 1, 0));
        int[] about = {0, 3, 4, 1};
        for (int what = 0; what < 4; what++) {
            int w = what;
            Due.is(about[what], () -> x.ticketAbout(0, w));
        }
        Due.is(0, () -> x.ticketAbout(1, 3));
        Due.index(() -> x.ticketAbout(0, 4));
        Due.index(() -> x.ticketAbout(0, -1));
        Due.index(() -> x.ticketAbout(4, 0));
    }

    private static void mostTickets() {
        DigHouse x = new DigHouse();
        for (int s = 0; s < 4; s++) {
            x.ticketSlot(20);
        }
        for (int t = 0; t < 60; t++) {
            int ticket = t;
            Due.is(ticket, () -> x.ticketSell(ticket / 20, 1, 0));
        }
        Due.state(() -> x.ticketSell(3, 0, 0));
        Due.index(() -> x.ticketSell(3, 0, 9));
        x.ticketWaits(0, 1, 0);
        Due.is(0, () -> x.ticketBack(0));
        Due.is(-1, () -> x.ticketGiven(0));
    }

    private static void waiting() {
        DigHouse x = new DigHouse();
        Due.index(() -> x.ticketWaits(0, 0, 0));
        x.ticketSlot(4);
        x.ticketSlot(4);
        Due.index(() -> x.ticketWaits(0, 0, 5));
        Due.argument(() -> x.ticketWaits(0, 0, 0));
        Due.argument(() -> x.ticketWaits(0, 10, 0));
        x.ticketSell(0, 3, 0);
        x.ticketSell(0, 1, 0);
        Due.is(0, () -> x.ticketWaits(0, 4, 1));
        Due.is(1, () -> x.ticketWaits(1, 1, 1));
        Due.is(2, () -> x.ticketWaits(0, 2, 2));
        Due.is(3, () -> x.ticketWaits(0, 1, 3));
        Due.is(4, () -> x.ticketWaits(0, 1, 4));
        Due.index(() -> x.ticketGiven(5));
        Due.index(() -> x.ticketGiven(-1));
        Due.is(2, () -> x.ticketBack(0));
        int[] given = {-1, -1, 2, 3, -1};
        for (int q = 0; q < 5; q++) {
            int request = q;
            Due.is(given[q], () -> x.ticketGiven(request));
        }
        Due.is(2, () -> x.ticketAbout(2, 1));
        Due.is(2, () -> x.ticketAbout(2, 2));
        Due.is(3, () -> x.ticketCount(2));
        Due.is(1, () -> x.ticketBack(1));
        Due.is(4, () -> x.ticketGiven(4));
    }

    private static void mostWaiting() {
        DigHouse x = new DigHouse();
        x.ticketSlot(4);
        for (int q = 0; q < 30; q++) {
            int request = q;
            Due.is(request, () -> x.ticketWaits(0, 9, 4));
        }
        Due.state(() -> x.ticketWaits(0, 0, 0));
        Due.index(() -> x.ticketWaits(1, 0, 0));
    }

    private static int read(DigHouse x, String text) {
        for (char c : text.toCharArray()) {
            x.ticketUnit(c);
        }
        return x.ticketRules();
    }

    private static void pads() {
        DigHouse x = new DigHouse();
        Due.argument(() -> x.ticketUnit(32));
        Due.argument(() -> x.ticketUnit(127));
        for (int i = 1; i <= 60; i++) {
            int count = i;
            Due.is(count, () -> x.ticketUnit(33));
        }
        Due.state(() -> x.ticketUnit(33));
        Due.state(() -> x.ticketUnit(0));
        Due.is(60, () -> x.ticketCount(4));
        Due.is(-1, () -> x.ticketRules());
        Due.is(0, () -> x.ticketCount(4));
    }

    private static void rules() {
        DigHouse x = new DigHouse();
        String[] wrong = {"5=1", "0", "0=", "0=123456", "g", "g0-", "g00000", "g10", "g9", "g9-", "g9-101", "0=1,", ",", "0=1,,",
            "0=1,0=1,0=1,0=1,0=1,0=1,0=1,0=1,0=1", "g000010", "x", "00=1"};
        int[] at = {0, 1, 2, 7, 1, 2, 5, 2, 2, 3, 5, 4, 0, 4, 31, 6, 0, 1};
        Due.is(1, () -> read(x, "3=7"));
        for (int i = 0; i < wrong.length; i++) {
            int k = i;
            Due.is(-1 - at[i], () -> read(x, wrong[k]));
            Due.is(0, () -> x.ticketCount(4));
            Due.is(1, () -> x.ticketCount(3));
        }
        Due.is(8, () -> read(x, "0=1,0=1,0=1,0=1,0=1,0=1,g00009-00100,4=00000"));
        Due.is(8, () -> x.ticketCount(3));
        Due.is(0, () -> x.ticketRules());
        Due.is(0, () -> x.ticketCount(3));
    }

    private static void prices() {
        DigHouse x = new DigHouse();
        x.ticketSlot(20);
        Due.index(() -> x.ticketPrice(0));
        x.ticketSell(0, 1, 0);
        x.ticketSell(0, 3, 0);
        x.ticketSell(0, 9, 4);
        Due.is(0, () -> x.ticketPrice(2));
        read(x, "0=500,4=99999,0=333,g3-10,g2-7,g5-3,g9-100");
        Due.is(333, () -> x.ticketPrice(0));
        Due.is(999 - 99, () -> x.ticketPrice(1));
        Due.is(0, () -> x.ticketPrice(2));
        read(x, "4=99999,g1-1,g8-0,x");
        Due.is(0, () -> x.ticketPrice(2));
        read(x, "4=99999,g1-1,g8-0");
        Due.is(899991 - 8999, () -> x.ticketPrice(2));
        Due.is(0, () -> x.ticketPrice(0));
        Due.index(() -> x.ticketPrice(3));
        Due.index(() -> x.ticketPrice(-1));
    }

    private static void codes() {
        DigHouse x = new DigHouse();
        Due.index(() -> x.ticketCode(0, 0));
        for (int s = 0; s < 8; s++) {
            x.ticketSlot(20);
        }
        int[] slots = {0, 7, 3, 0, 0, 0, 0, 0, 0, 0, 0, 5};
        for (int s : slots) {
            x.ticketSell(s, 1, 0);
        }
        code(x, 0, 1, 2, 3, 4, 5, 3);
        code(x, 1, 2, 0, 4, 8, 1, 9);
        code(x, 11, 9, 9, 6, 0, 9, 1);
        Due.index(() -> x.ticketCode(0, 6));
        Due.index(() -> x.ticketCode(0, -1));
        Due.index(() -> x.ticketCode(12, 0));
    }

    private static void code(DigHouse x, int ticket, int... due) {
        for (int i = 0; i < 6; i++) {
            int at = i;
            Due.is(due[i], () -> x.ticketCode(ticket, at));
        }
    }
}
