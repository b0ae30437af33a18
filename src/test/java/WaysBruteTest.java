import java.math.BigInteger;
import java.util.ArrayList;
import java.util.List;
import java.util.Random;

/** Sums over ways, held against sums that are made by going through all ways one by one. */
public final class WaysBruteTest {
    private final Random random;
    private final DigHouse house = new DigHouse();
    /** Few years count then, so that more dates can be gone through. */
    private final boolean sparse;
    private final int count;
    private final int[][] counts;
    private final List<int[]> rows = new ArrayList<>();
    private final List<Integer> members = new ArrayList<>();

    private WaysBruteTest(int seed) {
        random = new Random(seed);
        sparse = random.nextInt(3) == 0;
        count = 1 + random.nextInt(sparse ? 6 : seed % 10 == 0 ? 4 : 3);
        counts = new int[count][12];
    }

    public static void main(String[] args) {
        for (int seed = 0; seed < 120; seed++) {
            new WaysBruteTest(seed).run();
        }
        Due.end();
    }

    private void run() {
        for (int c = 0; c < count; c++) {
            house.context();
        }
        for (int y = 0; y < 12; y++) {
            if (!sparse || random.nextInt(5) == 0) {
                house.curveRow(y, 400 - 20 * y + random.nextInt(9), 5 + random.nextInt(10));
            }
        }
        for (int c = 0; c < count; c++) {
            int date = house.curveDate(180 + random.nextInt(230), 4 + random.nextInt(20));
            house.dated(c, date);
            if (random.nextInt(2) == 0 && count < 4) {
                int below = 1 + random.nextInt(10);
                int above = random.nextInt(below + 1);
                house.outlier(c, above, below);
                take(c, date, above, below);
            } else {
                take(c, date, 0, 1);
            }
        }
        for (int c = 1; c < count; c++) {
            int a = random.nextInt(c);
            switch (random.nextInt(4)) {
                case 0:
                    house.layerRelate(c, a, 0);
                    rows.add(new int[] {a, c, 11});
                    break;
                case 1:
                    house.layerRelate(a, c, 2);
                    rows.add(new int[] {c, a, 11});
                    break;
                case 2:
                    if (house.layerOrder(a, c) == 0 && a == c - 1) {
                        house.layerRelate(a, c, 3);
                        rows.add(new int[] {a, c, 0});
                    }
                    break;
                default:
                    break;
            }
        }
        for (int c = 0; c < count; c++) {
            if (random.nextInt(2) == 0) {
                house.member(c, true);
                members.add(c);
            }
        }
        compare(house.solve());
    }

    private void take(int c, int date, int above, int below) {
        int sum = house.curveTotal(date);
        for (int y = 0; y < 12; y++) {
            counts[c][y] = (below - above) * 12 * house.curveWeight(date, y) + above * sum;
        }
    }

    private BigInteger total;
    private BigInteger[][] answered;
    private BigInteger[][] bounds;
    private BigInteger[][] both;

    private void compare(int answer) {
        if (answer == 1 || answer == 2) {
            Due.state(() -> house.wayTotal(0));
            return;
        }
        total = BigInteger.ZERO;
        answered = zeros(count);
        bounds = zeros(2);
        both = zeros(144);
        go(new int[count], 0, BigInteger.ONE);
        Due.compare(String.valueOf(total.signum() == 0 ? 3 : 0), String.valueOf(answer));
        sameDigits(total, d -> house.wayTotal(d));
        Due.compare(String.valueOf(total.signum() > 0), String.valueOf(house.wayFits()));
        for (int c = 0; c < count; c++) {
            compareDate(c);
        }
        for (int i = 0; i < 144; i++) {
            int x = i / 12;
            int y = i % 12;
            sameDigits(both[i], d -> house.wayBoth(0, x, count - 1, y, d));
        }
        for (int i = 0; i < 24 && !members.isEmpty(); i++) {
            int which = i / 12;
            int y = i % 12;
            sameDigits(bounds[which][y], d -> house.wayBound(which, y, d));
        }
    }

    private void compareDate(int c) {
        int least = -1;
        int greatest = -1;
        for (int y = 0; y < 12; y++) {
            int year = y;
            sameDigits(answered[c][y], d -> house.wayAnswered(c, year, d));
            if (answered[c][y].signum() > 0) {
                least = least < 0 ? y : least;
                greatest = y;
            }
        }
        Due.is(least, () -> house.waySpan(c, 0));
        Due.compare(String.valueOf(greatest), String.valueOf(house.waySpan(c, 1)));
        int below = 1 + random.nextInt(1000);
        int above = 1 + random.nextInt(below);
        Due.is(narrow(c, above, below), () -> house.wayNarrow(c, above, below));
    }

    private int narrow(int c, int above, int below) {
        for (int length = 1; length <= 12 && total.signum() > 0; length++) {
            for (int first = 0; first + length <= 12; first++) {
                BigInteger sum = BigInteger.ZERO;
                for (int y = first; y < first + length; y++) {
                    sum = sum.add(answered[c][y]);
                }
                if (sum.multiply(BigInteger.valueOf(below)).compareTo(total.multiply(BigInteger.valueOf(above))) >= 0) {
                    return 100 * first + first + length - 1;
                }
            }
        }
        return -1;
    }

    private interface Digit {
        int at(int d);
    }

    private static void sameDigits(BigInteger want, Digit got) {
        StringBuilder text = new StringBuilder();
        for (int d = 47; d >= 0; d--) {
            text.append(got.at(d));
        }
        Due.compare(want.toString(), new BigInteger(text.toString()).toString());
    }

    private static BigInteger[][] zeros(int length) {
        BigInteger[][] all = new BigInteger[length][12];
        for (BigInteger[] row : all) {
            java.util.Arrays.fill(row, BigInteger.ZERO);
        }
        return all;
    }

    private void go(int[] years, int c, BigInteger product) {
        if (c == count) {
            end(years, product);
            return;
        }
        for (int y = 0; y < 12; y++) {
            years[c] = y;
            if (counts[c][y] > 0) {
                go(years, c + 1, product.multiply(BigInteger.valueOf(counts[c][y])));
            }
        }
    }

    private void end(int[] years, BigInteger product) {
        for (int[] r : rows) {
            int apart = years[r[1]] - years[r[0]];
            if (apart < 0 || apart > r[2]) {
                return;
            }
        }
        for (int first = 0; first < 12; first++) {
            for (int last = 0; last < 12; last++) {
                boolean holds = !members.isEmpty() || first == 0 && last == 0;
                for (int m : members) {
                    holds &= first <= years[m] && years[m] <= last;
                }
                if (holds) {
                    bounds[0][first] = bounds[0][first].add(product);
                    bounds[1][last] = bounds[1][last].add(product);
                    count(years, product);
                }
            }
        }
    }

    private void count(int[] years, BigInteger product) {
        total = total.add(product);
        for (int c = 0; c < count; c++) {
            answered[c][years[c]] = answered[c][years[c]].add(product);
        }
        int at = years[0] * 12 + years[count - 1];
        if (both.length == 144) {
            both[at][0] = both[at][0].add(product);
        }
    }

    private void sameDigits(BigInteger[] want, Digit got) {
        sameDigits(want[0], got);
    }
}
