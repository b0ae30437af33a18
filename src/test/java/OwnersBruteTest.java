import java.math.BigInteger;
import java.util.ArrayList;
import java.util.List;
import java.util.Random;

/** Random histories of owners on few days, held against what is found here day by day. */
public final class OwnersBruteTest {
    private static final int DAYS = 40;

    private final Random random;
    private final DigHouse house = new DigHouse();
    /** Thing, person, from, to, told, above, below, doubt, seals. */
    private final List<int[]> rows = new ArrayList<>();
    private final List<int[]> corrections = new ArrayList<>();
    private final List<int[]> dangers = new ArrayList<>();
    private final List<int[]> claims = new ArrayList<>();
    private final List<int[]> values = new ArrayList<>();
    private final List<int[]> licences = new ArrayList<>();

    private OwnersBruteTest(int seed) {
        random = new Random(seed);
    }

    public static void main(String[] args) {
        for (int seed = 0; seed < 150; seed++) {
            new OwnersBruteTest(seed).run();
        }
        Due.end();
    }

    private int day() {
        return random.nextInt(DAYS);
    }

    private void run() {
        house.context();
        house.find(0, 0, -1);
        house.find(0, 0, -1);
        house.object(0, 1, 1, 1, 1);
        house.object(1, 1, 1, 1, 1);
        for (int i = 0; i < 60; i++) {
            tell(random.nextInt(12), random.nextInt(2), random.nextInt(5));
        }
        for (int thing = 0; thing < 2; thing++) {
            for (int i = 0; i < 12; i++) {
                compare(thing, i == 0 ? DAYS : day());
            }
        }
    }

    private void tell(int dice, int thing, int person) {
        int a = day();
        int b = a + random.nextInt(8);
        int told = day();
        if (dice < 4) {
            Due.is(rows.size(), () -> house.ownerRow(thing, person, a, b, told));
            rows.add(new int[] {thing, person, a, b, told, 1, 1, 0, 0});
        } else if (dice == 4) {
            Due.is(dangers.size() < 10 ? dangers.size() : -1, () -> dangers.size() < 10 ? house.ownerDanger(person - 1, a, b) : -1);
            if (dangers.size() < 10) {
                dangers.add(new int[] {person - 1, a, b});
            }
        } else if (dice == 5) {
            claims.add(new int[] {thing, a, -1});
            house.ownerClaim(thing, person, a);
        } else if (dice == 6 && !claims.isEmpty()) {
            int[] claim = claims.get(random.nextInt(claims.size()));
            int number = claims.indexOf(claim);
            if (b < claim[1]) {
                Due.argument(() -> house.ownerSettle(number, b));
            } else if (claim[2] >= 0) {
                Due.state(() -> house.ownerSettle(number, b));
            } else {
                house.ownerSettle(number, b);
                claim[2] = b;
            }
        } else if (dice == 7) {
            values.add(new int[] {thing, a, person % 2, b});
            Due.is(values.size(), () -> house.ownerWorth(thing, a, person % 2, b));
        } else if (dice == 8) {
            licences.add(new int[] {thing, person, a, b});
            Due.is(licences.size(), () -> house.ownerLicence(thing, person, a, b));
        } else if (!rows.isEmpty()) {
            change(random.nextInt(rows.size()), random.nextInt(3), person);
        }
    }

    private void change(int row, int field, int person) {
        int[] r = rows.get(row);
        int v = field == 0 ? person : day();
        int told = day();
        if (told >= r[4]) {
            house.ownerCorrect(row, field, v, told);
            corrections.add(new int[] {row, field, v, told});
        } else {
            Due.argument(() -> house.ownerCorrect(row, field, v, told));
        }
        int below = 1 + random.nextInt(12);
        int above = 1 + random.nextInt(below);
        house.ownerShare(row, above, below);
        r[5] = above;
        r[6] = below;
        boolean on = random.nextBoolean();
        Due.compare(String.valueOf(on != (r[7] == 1)), String.valueOf(house.ownerDoubt(row, on)));
        r[7] = on ? 1 : 0;
        int role = random.nextInt(3);
        Due.compare(String.valueOf(on != ((r[8] >> role & 1) == 1)), String.valueOf(house.ownerSeal(row, role, on)));
        r[8] = on ? r[8] | 1 << role : r[8] & ~(1 << role);
    }

    private int known(int row, int field, int day) {
        int value = rows.get(row)[1 + field];
        int since = -1;
        for (int[] c : corrections) {
            if (c[0] == row && c[1] == field && c[3] <= day && c[3] >= since) {
                since = c[3];
                value = c[2];
            }
        }
        return value;
    }

    private boolean counts(int row, int thing, int day) {
        return rows.get(row)[0] == thing && rows.get(row)[4] <= day && known(row, 1, day) <= known(row, 2, day);
    }

    private void compare(int thing, int day) {
        List<Integer> all = new ArrayList<>();
        for (int row = 0; row < rows.size(); row++) {
            int r = row;
            for (int field = 0; field < 3; field++) {
                int f = field;
                Due.is(rows.get(row)[4] > day ? -1 : known(row, field, day), () -> house.ownerKnown(r, f, day));
            }
            if (counts(row, thing, day)) {
                all.add(row);
            }
        }
        gaps(all, thing, day);
        chain(all, thing, day);
        List<Integer> asked = new ArrayList<>();
        for (int row : all) {
            boolean danger = false;
            for (int[] d : dangers) {
                danger |= (d[0] == -1 || d[0] == known(row, 0, day)) && known(row, 1, day) <= d[2] && d[1] <= known(row, 2, day);
            }
            if (danger) {
                asked.add(row);
            }
        }
        for (int k = 0; k <= asked.size(); k++) {
            int at = k;
            Due.is(k < asked.size() ? asked.get(k) : -1, () -> house.ownerAsked(thing, at, day));
        }
        for (int role = 0; role < 3; role++) {
            int r = role;
            List<Integer> seen = new ArrayList<>(all);
            seen.removeIf(row -> (rows.get(row)[8] >> r & 1) == 1);
            for (int k = 0; k <= seen.size(); k++) {
                int at = k;
                Due.is(k < seen.size() ? seen.get(k) : -1, () -> house.ownerSeen(thing, r, at, day));
            }
        }
        shares(all, thing, day);
        boolean stops = false;
        for (int[] c : claims) {
            stops |= c[0] == thing && c[1] <= day && (c[2] < 0 || day < c[2]);
        }
        Due.compare(String.valueOf(stops), String.valueOf(house.ownerStops(thing, day)));
        for (int use = 0; use < 5; use++) {
            boolean licensed = false;
            for (int[] l : licences) {
                licensed |= l[0] == thing && l[1] == use && l[2] <= day && day <= l[3];
            }
            Due.compare(String.valueOf(licensed), String.valueOf(house.ownerLicensed(thing, use, day)));
        }
        for (int currency = 0; currency < 3; currency++) {
            int value = -1;
            int since = -1;
            for (int[] v : values) {
                if (v[0] == thing && v[2] == currency && v[1] <= day && v[1] >= since) {
                    since = v[1];
                    value = v[3];
                }
            }
            int c = currency;
            int due = value;
            Due.is(due, () -> house.ownerValue(thing, day, c));
        }
    }

    private boolean lies(int row, int on, int day) {
        return known(row, 1, day) <= on && on <= known(row, 2, day);
    }

    private void gaps(List<Integer> all, int thing, int day) {
        boolean[] covered = new boolean[2 * DAYS];
        int least = 1000;
        int greatest = -1;
        for (int row : all) {
            least = Math.min(least, known(row, 1, day));
            greatest = Math.max(greatest, known(row, 2, day));
            for (int d = known(row, 1, day); d <= known(row, 2, day); d++) {
                covered[d] = true;
            }
        }
        int k = 0;
        for (int d = least; d <= greatest; d++) {
            if (!covered[d]) {
                int first = d;
                while (!covered[d + 1]) {
                    d++;
                }
                int last = d;
                int at = k;
                Due.is(first, () -> house.ownerGap(thing, at, 0, day));
                Due.is(last, () -> house.ownerGap(thing, at, 1, day));
                k++;
            }
        }
        int end = k;
        Due.is(-1, () -> house.ownerGap(thing, end, 0, day));
    }

    private void chain(List<Integer> all, int thing, int day) {
        List<Integer> sorted = new ArrayList<>(all);
        sorted.sort((a, b) -> Integer.compare(known(a, 1, day), known(b, 1, day)));
        StringBuilder text = new StringBuilder();
        for (int row : sorted) {
            text.append(known(row, 0, day)).append('@').append(known(row, 1, day)).append('-').append(known(row, 2, day));
            text.append(rows.get(row)[7] == 1 ? "?;" : ";");
        }
        Due.is(text.length(), () -> house.ownerChain(thing, day, -1));
        for (int i = 0; i < text.length(); i++) {
            int at = i;
            Due.is(text.charAt(i), () -> house.ownerChain(thing, day, at));
        }
        Due.element(() -> house.ownerChain(thing, day, text.length()));
    }

    private void shares(List<Integer> all, int thing, int day) {
        for (int on = 0; on < DAYS; on += 3) {
            BigInteger above = BigInteger.ZERO;
            BigInteger below = BigInteger.ONE;
            for (int row : all) {
                if (lies(row, on, day)) {
                    BigInteger d = BigInteger.valueOf(rows.get(row)[6]);
                    above = above.multiply(d).add(below.multiply(BigInteger.valueOf(rows.get(row)[5])));
                    below = below.multiply(d);
                    BigInteger common = above.gcd(below);
                    above = above.divide(common);
                    below = below.divide(common);
                }
            }
            int at = on;
            BigInteger a = above;
            BigInteger b = below;
            Due.is(a.longValueExact(), () -> house.ownerHeld(thing, at, day, 0));
            Due.is(b.longValueExact(), () -> house.ownerHeld(thing, at, day, 1));
        }
    }
}
