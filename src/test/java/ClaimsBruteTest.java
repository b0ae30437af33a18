import java.util.ArrayList;
import java.util.List;
import java.util.Random;
import java.util.TreeMap;

/** Random claims, sources and opinions, held against what is found here by going through all. */
public final class ClaimsBruteTest {
    private static final int CLAIMS = 6;
    private static final int SOURCES = 4;
    private static final int DAYS = 8;

    private final Random random;
    private final DigHouse house = new DigHouse();
    private final int[] sourceDays = new int[SOURCES];
    private final int[] withdrawn = new int[SOURCES];
    private final boolean[][] onSources = new boolean[CLAIMS][SOURCES];
    private final boolean[][] onClaims = new boolean[CLAIMS][CLAIMS];
    private final int[] rules = new int[CLAIMS];
    /** Person, claim, value, day, rank. */
    private final List<int[]> opinions = new ArrayList<>();
    private List<Integer> ring = new ArrayList<>();

    private ClaimsBruteTest(int seed) {
        random = new Random(seed);
    }

    public static void main(String[] args) {
        for (int seed = 0; seed < 250; seed++) {
            new ClaimsBruteTest(seed).run();
        }
        Due.end();
    }

    private void run() {
        for (int s = 0; s < SOURCES; s++) {
            sourceDays[s] = random.nextInt(DAYS);
            withdrawn[s] = -1;
            house.claimSource(s, sourceDays[s]);
        }
        for (int c = 0; c < CLAIMS; c++) {
            house.claimNew();
        }
        for (int i = 0; i < 60; i++) {
            step();
        }
        for (int day = 0; day <= DAYS; day++) {
            for (int c = 0; c < CLAIMS; c++) {
                compare(c, day);
            }
            opened(day);
        }
    }

    private void step() {
        int claim = random.nextInt(CLAIMS);
        int other = random.nextInt(CLAIMS);
        int source = random.nextInt(SOURCES);
        int day = random.nextInt(DAYS);
        boolean on = random.nextInt(3) != 0;
        switch (random.nextInt(8)) {
            case 0:
                if (random.nextInt(3) == 0) {
                    Due.compare(String.valueOf(onSources[claim][source] != on), String.valueOf(house.claimRests(claim, source, on)));
                    onSources[claim][source] = on;
                }
                break;
            case 1: restOn(claim, other); break;
            case 2:
                if (random.nextInt(3) == 0) {
                    Due.compare(String.valueOf(onClaims[claim][other]), String.valueOf(house.claimLift(claim, other)));
                    onClaims[claim][other] = false;
                }
                break;
            case 3:
                int until = random.nextInt(3) == 0 ? -1 : day;
                Due.is(withdrawn[source], () -> house.claimWithdraw(source, until));
                withdrawn[source] = until;
                break;
            case 4:
                int kind = random.nextInt(3);
                Due.is(rules[claim], () -> house.claimRule(claim, kind));
                rules[claim] = kind;
                break;
            default: opinion(random.nextInt(5), claim, random.nextInt(3), day, random.nextInt(3)); break;
        }
    }

    private void restOn(int claim, int other) {
        if (onClaims[claim][other]) {
            Due.is(0, () -> house.claimRestsOn(claim, other));
            return;
        }
        onClaims[claim][other] = true;
        List<Integer> best = null;
        List<List<Integer>> all = new ArrayList<>();
        List<Integer> path = new ArrayList<>();
        path.add(claim);
        walk(path, all);
        for (List<Integer> one : all) {
            best = best == null || one.size() < best.size() ? one : best;
        }
        Due.is(best == null ? 1 : -1, () -> house.claimRestsOn(claim, other));
        if (best != null) {
            onClaims[claim][other] = false;
            ring = best;
        }
        for (int k = 0; k <= ring.size(); k++) {
            int at = k;
            Due.is(k < ring.size() ? ring.get(k) : -1, () -> house.claimRing(at));
        }
    }

    /** All rings from the path's first one on; the lower numbers first, so that of equal lengths the first one is the due one. */
    private void walk(List<Integer> path, List<List<Integer>> all) {
        int last = path.get(path.size() - 1);
        for (int c = 0; c < CLAIMS; c++) {
            if (onClaims[last][c] && c == path.get(0)) {
                all.add(new ArrayList<>(path));
            } else if (onClaims[last][c] && !path.contains(c)) {
                path.add(c);
                walk(path, all);
                path.remove(path.size() - 1);
            }
        }
    }

    private void opinion(int person, int claim, int v, int day, int rank) {
        opinions.removeIf(o -> o[0] == person && o[1] == claim && o[3] == day);
        opinions.add(new int[] {person, claim, v, day, rank});
        int count = 0;
        for (int[] o : opinions) {
            count += o[1] == claim ? 1 : 0;
        }
        int due = count;
        Due.is(due, () -> house.claimOpinion(person, claim, v, day, rank));
        Due.is(opinions.size(), () -> house.claimCount(3));
    }

    private boolean isHeld(int claim, int day, int without) {
        for (int s = 0; s < SOURCES; s++) {
            if (onSources[claim][s] && s != without && sourceDays[s] <= day && (withdrawn[s] < 0 || withdrawn[s] > day)) {
                return true;
            }
        }
        for (int c = 0; c < CLAIMS; c++) {
            if (onClaims[claim][c] && isHeld(c, day, without)) {
                return true;
            }
        }
        return false;
    }

    private void compare(int claim, int day) {
        Due.compare(String.valueOf(isHeld(claim, day, -1)), String.valueOf(house.claimHeld(claim, day)));
        TreeMap<Integer, int[]> known = new TreeMap<>();
        for (int[] o : opinions) {
            if (o[1] == claim && o[3] <= day && (!known.containsKey(o[0]) || known.get(o[0])[3] < o[3])) {
                known.put(o[0], o);
            }
        }
        int agreed = isHeld(claim, day, -1) ? agreed(rules[claim], new ArrayList<>(known.values())) : -1;
        Due.is(agreed, () -> house.claimAgreed(claim, day));
        int k = 0;
        for (int[] o : known.values()) {
            if (o[2] != agreed) {
                int at = k;
                Due.is(o[0], () -> house.claimDissent(claim, day, at));
                k++;
            }
        }
        int end = k;
        Due.is(-1, () -> house.claimDissent(claim, day, end));
    }

    private static int agreed(int rule, List<int[]> known) {
        List<int[]> best = new ArrayList<>();
        int[] counts = new int[100];
        int most = 0;
        int rank = -1;
        int day = -1;
        for (int[] o : known) {
            counts[o[2]]++;
            most = Math.max(most, counts[o[2]]);
            if (o[4] > rank || o[4] == rank && o[3] > day) {
                rank = o[4];
                day = o[3];
            }
        }
        for (int[] o : known) {
            if (rule == 0 && counts[o[2]] == most || rule == 1 && o[4] == rank && o[3] == day || rule == 2) {
                best.add(o);
            }
        }
        int value = -1;
        for (int[] o : best) {
            if (value != -1 && value != o[2]) {
                return -2;
            }
            value = o[2];
        }
        return value;
    }

    private void opened(int day) {
        for (int s = 0; s < SOURCES; s++) {
            int source = s;
            int k = 0;
            for (int c = 0; c < CLAIMS; c++) {
                if (isHeld(c, day, -1) && !isHeld(c, day, s)) {
                    int at = k;
                    int claim = c;
                    Due.is(claim, () -> house.claimOpened(source, day, at));
                    k++;
                }
            }
            int end = k;
            Due.is(-1, () -> house.claimOpened(source, day, end));
        }
    }
}
