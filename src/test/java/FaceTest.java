import java.lang.reflect.Constructor;
import java.lang.reflect.Field;
import java.lang.reflect.Method;
import java.lang.reflect.Modifier;
import java.util.ArrayList;
import java.util.Arrays;
import java.util.List;

/** The public face, just as the document writes it: what is public, its types, and the exceptions in their order. */
public final class FaceTest {
    private static final String CALLS = """
        int context() throws IllegalStateException
        int phase(int context, int p) throws IndexOutOfBoundsException, IllegalArgumentException, IllegalStateException
        boolean hide(int context, boolean on) throws IndexOutOfBoundsException, IllegalStateException
        int draw(int rounds) throws IllegalArgumentException, IllegalStateException
        int dated(int context, int date) throws IndexOutOfBoundsException, NoSuchElementException, IllegalStateException
        void outlier(int context, int above, int below) throws IndexOutOfBoundsException, NoSuchElementException, IllegalArgumentException, IllegalStateException
        boolean member(int context, boolean on) throws IndexOutOfBoundsException, NoSuchElementException, IllegalStateException
        int solve() throws IllegalStateException
        int find(int context, int kind, int community) throws IndexOutOfBoundsException, IllegalArgumentException, IllegalStateException
        int object(int find, int w, int h, int d, int grams) throws NoSuchElementException, IllegalArgumentException, IllegalStateException
        int place(int into, int load) throws NoSuchElementException, IllegalArgumentException, IllegalStateException
        int room(int place) throws NoSuchElementException, IllegalStateException
        int lamp(int room, int lux) throws NoSuchElementException, IllegalArgumentException, IllegalStateException
        int spare(int object, int luxHours) throws NoSuchElementException, IllegalArgumentException, IllegalStateException
        int workshop(int place) throws NoSuchElementException, IllegalStateException
        int hour(int degrees, int damp) throws IllegalArgumentException, IllegalStateException
        int pass(int days) throws IllegalArgumentException, IllegalStateException
        int carry(int object, int place, int a, int b) throws NoSuchElementException, IllegalStateException
        int pack(int object, int box) throws NoSuchElementException, IllegalStateException
        boolean lose(int object) throws NoSuchElementException, IllegalStateException
        int lend(int contract, int object, int from, int to) throws IndexOutOfBoundsException, NoSuchElementException, IllegalArgumentException, IllegalStateException
        int treat(int object, int method, int person, int second) throws NoSuchElementException, IndexOutOfBoundsException, IllegalStateException
        int origin(int object, int claim) throws NoSuchElementException, IllegalStateException
        int from(int object) throws NoSuchElementException, IllegalStateException
        int year(int object, int year, int digit) throws NoSuchElementException, IllegalStateException
        int look(int person, int object, int field, int purpose) throws NoSuchElementException, IllegalStateException
        long shown() throws IllegalStateException
        int present() throws IllegalStateException
        int light(int object) throws NoSuchElementException, IllegalStateException
        int warm(int object) throws NoSuchElementException, IllegalStateException
        int inRoom(int object) throws NoSuchElementException, IllegalStateException
        int broken(int loan) throws IndexOutOfBoundsException, IllegalStateException
        int had(int what) throws NoSuchElementException, IllegalStateException
        int save() throws IllegalStateException
        int cut(int kept) throws IllegalArgumentException, IllegalStateException
        int reopen() throws IllegalStateException
        int layerRelate(int a, int b, int kind) throws IndexOutOfBoundsException, IllegalStateException
        int layerRing(int k) throws IndexOutOfBoundsException, IllegalStateException
        boolean layerUndo(int relation) throws IndexOutOfBoundsException, IllegalStateException
        int layerOrder(int a, int b) throws IndexOutOfBoundsException, IllegalStateException
        int layerLinks() throws IllegalStateException
        int layerLink(int k, int which) throws IndexOutOfBoundsException, IllegalStateException
        int layerEqual(int context) throws IndexOutOfBoundsException, IllegalStateException
        boolean layerContemporary(int a, int b) throws IndexOutOfBoundsException, IllegalStateException
        int layerLongest(int context) throws IndexOutOfBoundsException, IllegalStateException
        int layerGroup() throws IllegalStateException
        boolean layerInto(int group, int context) throws IndexOutOfBoundsException, IllegalStateException
        int layerGroupRing(int k) throws IndexOutOfBoundsException, IllegalStateException
        int layerGroupOf(int context) throws IndexOutOfBoundsException, IllegalStateException
        int layerVersion() throws IllegalStateException
        int layerDiffers(int one, int other, int k) throws IndexOutOfBoundsException, IllegalStateException
        int layerCount(int what) throws IndexOutOfBoundsException, IllegalStateException
        int sheetGroup(int context) throws IndexOutOfBoundsException, IllegalStateException
        int sheetMisfit(int k, int which) throws IndexOutOfBoundsException, IllegalStateException
        int sheetCrossings(int k) throws IndexOutOfBoundsException, IllegalStateException
        int sheetAt(int context, int what) throws IndexOutOfBoundsException, IllegalStateException
        int sheetLinks() throws IllegalStateException
        int sheetLink(int k, int what) throws IndexOutOfBoundsException, IllegalStateException
        int sheetCommand(int i) throws IndexOutOfBoundsException, IllegalStateException
        int sheetCount(int what) throws IndexOutOfBoundsException, IllegalStateException
        boolean curveRow(int year, int age, int spread) throws IndexOutOfBoundsException, IllegalArgumentException, IllegalStateException
        int curveEdition() throws IllegalStateException
        int curveUse(int edition) throws IndexOutOfBoundsException, IllegalStateException
        void curveReservoir(int age, int spread) throws IllegalArgumentException, IllegalStateException
        int curveDate(int age, int spread) throws IllegalArgumentException, IllegalStateException
        int curveWeight(int date, int year) throws IndexOutOfBoundsException, IllegalStateException
        int curveTotal(int date) throws IndexOutOfBoundsException, IllegalStateException
        int curveSum(int a, int b) throws IndexOutOfBoundsException, IllegalStateException
        int curveMix(int a, int b, int above, int below) throws IndexOutOfBoundsException, IllegalArgumentException, IllegalStateException
        int curveJoinRepeats(int a, int b) throws IndexOutOfBoundsException, IllegalStateException
        int curveLeast(int date, int above, int below) throws IndexOutOfBoundsException, IllegalArgumentException, IllegalStateException
        int curveSpan(int k, int end) throws IndexOutOfBoundsException, IllegalStateException
        int curveGap(int date, int years) throws IndexOutOfBoundsException, IllegalArgumentException, IllegalStateException
        int curveSlid(int year) throws IndexOutOfBoundsException, IllegalStateException
        int curveWiggle() throws IllegalStateException
        int curveClear() throws IllegalStateException
        int curveUnit(int a, int b) throws IllegalArgumentException, IllegalStateException
        int curveRead() throws IllegalStateException
        int curveCount(int what) throws IndexOutOfBoundsException, IllegalStateException
        int wayTotal(int digit) throws NoSuchElementException, IllegalStateException
        int wayAnswered(int context, int year, int digit) throws IndexOutOfBoundsException, NoSuchElementException, IllegalStateException
        int wayBound(int which, int year, int digit) throws NoSuchElementException, IllegalStateException
        int wayBoth(int a, int x, int b, int y, int digit) throws IndexOutOfBoundsException, NoSuchElementException, IllegalStateException
        int waySpan(int context, int which) throws IndexOutOfBoundsException, NoSuchElementException, IllegalStateException
        int wayNarrow(int context, int above, int below) throws IndexOutOfBoundsException, NoSuchElementException, IllegalArgumentException, IllegalStateException
        boolean wayFits() throws NoSuchElementException, IllegalStateException
        int wayFitless(int k) throws NoSuchElementException, IllegalStateException
        int wayCount(int what) throws NoSuchElementException, IllegalStateException
        int ownerRow(int thing, int person, int from, int to, int told) throws NoSuchElementException, IllegalArgumentException, IllegalStateException
        void ownerShare(int row, int above, int below) throws NoSuchElementException, IllegalArgumentException, IllegalStateException
        boolean ownerDoubt(int row, boolean on) throws NoSuchElementException, IllegalStateException
        void ownerCorrect(int row, int field, int v, int told) throws NoSuchElementException, IllegalArgumentException, IllegalStateException
        int ownerKnown(int row, int field, int day) throws NoSuchElementException, IllegalArgumentException, IllegalStateException
        int ownerGap(int thing, int k, int end, int day) throws NoSuchElementException, IllegalArgumentException, IllegalStateException
        int ownerHeld(int thing, int on, int day, int part) throws NoSuchElementException, IllegalArgumentException, IllegalStateException
        int ownerDanger(int person, int from, int to) throws NoSuchElementException, IllegalArgumentException, IllegalStateException
        int ownerAsked(int thing, int k, int day) throws NoSuchElementException, IllegalArgumentException, IllegalStateException
        int ownerClaim(int thing, int person, int day) throws NoSuchElementException, IllegalArgumentException, IllegalStateException
        void ownerSettle(int claim, int day) throws NoSuchElementException, IllegalArgumentException, IllegalStateException
        boolean ownerStops(int thing, int day) throws NoSuchElementException, IllegalArgumentException, IllegalStateException
        void ownerTell(int what, int a, int b) throws NoSuchElementException, IllegalArgumentException, IllegalStateException
        int ownerRights(int thing, int kind, int day) throws NoSuchElementException, IllegalArgumentException, IllegalStateException
        int ownerLicence(int thing, int use, int from, int to) throws NoSuchElementException, IllegalArgumentException, IllegalStateException
        boolean ownerLicensed(int thing, int use, int day) throws NoSuchElementException, IllegalArgumentException, IllegalStateException
        boolean ownerSeal(int row, int role, boolean on) throws NoSuchElementException, IllegalStateException
        int ownerSeen(int thing, int role, int k, int day) throws NoSuchElementException, IllegalArgumentException, IllegalStateException
        int ownerWorth(int thing, int day, int currency, int v) throws NoSuchElementException, IllegalArgumentException, IllegalStateException
        int ownerValue(int thing, int day, int currency) throws NoSuchElementException, IllegalArgumentException, IllegalStateException
        int ownerChain(int thing, int day, int i) throws NoSuchElementException, IllegalArgumentException, IllegalStateException
        int placeKeys(int object, int n) throws NoSuchElementException, IllegalArgumentException, IllegalStateException
        boolean placeKey(int person, boolean has) throws NoSuchElementException, IllegalStateException
        boolean placeBox(int object) throws NoSuchElementException, IllegalStateException
        int placeWhere(int object, int hour) throws NoSuchElementException, IllegalStateException
        int placeLast(int object) throws NoSuchElementException, IllegalStateException
        int placeHistory(int object, int k, int what) throws NoSuchElementException, IllegalArgumentException, IllegalStateException
        int placeDoor(int a, int b, int w, int h) throws NoSuchElementException, IllegalArgumentException, IllegalStateException
        boolean placePasses(int object, int door) throws NoSuchElementException, IllegalStateException
        int placeWay(int object, int to) throws NoSuchElementException, IllegalStateException
        int placePlanned(int object, int place, int from, int to) throws NoSuchElementException, IllegalArgumentException, IllegalStateException
        int placeUsed(int place, int hour) throws NoSuchElementException, IllegalStateException
        void placeQuiet(int place, int from, int to) throws NoSuchElementException, IllegalArgumentException, IllegalStateException
        int placeCount(int what) throws IllegalArgumentException, IllegalStateException
        int termUnit(int sign) throws IllegalStateException, IllegalArgumentException
        int termRead() throws IllegalStateException
        int termMany(int contract) throws IndexOutOfBoundsException, IllegalStateException
        int termWritten(int contract, int i) throws IndexOutOfBoundsException, IllegalStateException
        void termFails(int name, int from, int to) throws IndexOutOfBoundsException, IllegalArgumentException, IllegalStateException
        boolean termShield(int loan, boolean on) throws IndexOutOfBoundsException, IllegalStateException
        int termOpen(int loan, int hour, int k) throws IndexOutOfBoundsException, IllegalArgumentException, IllegalStateException
        int termTold(int loan, int k, int what) throws IndexOutOfBoundsException, IllegalStateException
        int termExtend(int loan, int to, int day) throws IndexOutOfBoundsException, IllegalArgumentException, IllegalStateException
        int termRequest(int thing, int from, int to) throws IndexOutOfBoundsException, IllegalStateException, IllegalArgumentException
        int termClash(int k, int which) throws IndexOutOfBoundsException, IllegalStateException
        int termDays(int loan) throws IndexOutOfBoundsException, IllegalStateException
        int termFee(int loan) throws IndexOutOfBoundsException, IllegalStateException
        int termLetter(int loan, int i) throws IndexOutOfBoundsException, IllegalStateException
        int termCount(int what) throws IndexOutOfBoundsException, IllegalStateException
        void roomSize(int room, int volume, int share) throws NoSuchElementException, IllegalArgumentException, IllegalStateException
        int roomWall(int room, int conductance, int capacity) throws NoSuchElementException, IllegalStateException, IllegalArgumentException
        int roomGoods(int room, int kilograms) throws NoSuchElementException, IllegalArgumentException, IllegalStateException
        int roomRow(int room, int damp, int milligrams) throws NoSuchElementException, IllegalStateException, IllegalArgumentException
        void roomMachine(int room, int kind, int low, int high, int rate) throws NoSuchElementException, IndexOutOfBoundsException, IllegalArgumentException, IllegalStateException
        int roomDegrees(int room) throws NoSuchElementException, IllegalStateException
        int roomDamp(int room) throws NoSuchElementException, IllegalStateException
        int roomLayer(int room, int k) throws NoSuchElementException, IndexOutOfBoundsException, IllegalStateException
        int roomHeld(int room) throws NoSuchElementException, IllegalStateException
        boolean roomOn(int room, int kind) throws NoSuchElementException, IndexOutOfBoundsException, IllegalStateException
        long roomBook(int room, int kind, int what) throws NoSuchElementException, IndexOutOfBoundsException, IllegalStateException
        boolean roomDew(int room, int k) throws NoSuchElementException, IndexOutOfBoundsException, IllegalStateException
        int roomRisk(int room, int kind, int level, int points) throws NoSuchElementException, IndexOutOfBoundsException, IllegalStateException, IllegalArgumentException
        int roomPoints(int room, int kind) throws NoSuchElementException, IndexOutOfBoundsException, IllegalStateException
        int roomRule(int room, int kind, int level, int hold) throws NoSuchElementException, IllegalStateException, IllegalArgumentException
        int roomAlarm(int room, int rule, int k) throws NoSuchElementException, IndexOutOfBoundsException, IllegalStateException
        void roomSensor(int room, int hour, int v) throws NoSuchElementException, IndexOutOfBoundsException, IllegalArgumentException, IllegalStateException
        void roomCheck(int room, int hour, int right) throws NoSuchElementException, IndexOutOfBoundsException, IllegalStateException, IllegalArgumentException
        int roomCorrected(int room, int hour) throws NoSuchElementException, IndexOutOfBoundsException, IllegalStateException
        int roomSilent(int room, int from) throws NoSuchElementException, IndexOutOfBoundsException, IllegalStateException
        int roomPlan(int room, int hours, int degrees, int damp) throws NoSuchElementException, IllegalArgumentException, IllegalStateException
        int roomCount(int room, int what) throws NoSuchElementException, IndexOutOfBoundsException, IllegalStateException
        int methodUnit(int sign) throws IllegalStateException, IllegalArgumentException
        int methodRead() throws IllegalStateException
        int methodUses(int method, int good) throws IndexOutOfBoundsException, IllegalStateException
        int methodPart(int object, int material) throws IndexOutOfBoundsException, IllegalStateException
        boolean methodRight(int person, int method, boolean on) throws IndexOutOfBoundsException, IllegalStateException
        boolean methodTrial(int method, int material, boolean good) throws IndexOutOfBoundsException, IllegalStateException
        int methodReason(int object, int method, int person, int hour) throws IndexOutOfBoundsException, IllegalArgumentException, IllegalStateException
        int methodRow(int object, int k, int what) throws IndexOutOfBoundsException, IllegalStateException
        int methodStock(int good, int change) throws IndexOutOfBoundsException, IllegalArgumentException, IllegalStateException
        long methodAbout(int good, int what) throws IndexOutOfBoundsException, IllegalStateException
        boolean methodApart(int a, int b) throws IndexOutOfBoundsException, IllegalStateException
        int methodPut(int good, int shelf) throws IndexOutOfBoundsException, IllegalStateException
        int methodPlan(int object, int set) throws IndexOutOfBoundsException, IllegalStateException
        int methodStep(int k) throws IndexOutOfBoundsException, IllegalStateException
        int methodCount(int what) throws IndexOutOfBoundsException, IllegalStateException
        int claimUnit(int sign) throws IllegalArgumentException, IllegalStateException
        int claimClear() throws IllegalStateException
        int claimSource(int kind, int day) throws IllegalArgumentException, IllegalStateException
        int claimNew() throws IllegalStateException
        boolean claimRests(int claim, int source, boolean on) throws NoSuchElementException, IllegalStateException
        int claimRestsOn(int claim, int other) throws NoSuchElementException, IllegalStateException
        int claimRing(int k) throws NoSuchElementException, IllegalStateException
        boolean claimLift(int claim, int other) throws NoSuchElementException, IllegalStateException
        int claimWithdraw(int source, int day) throws NoSuchElementException, IllegalArgumentException, IllegalStateException
        int claimOpinion(int person, int claim, int v, int day, int rank) throws NoSuchElementException, IllegalArgumentException, IllegalStateException
        int claimRule(int claim, int kind) throws NoSuchElementException, IllegalArgumentException, IllegalStateException
        int claimAgreed(int claim, int day) throws NoSuchElementException, IllegalArgumentException, IllegalStateException
        int claimDissent(int claim, int day, int k) throws NoSuchElementException, IllegalArgumentException, IllegalStateException
        boolean claimHeld(int claim, int day) throws NoSuchElementException, IllegalArgumentException, IllegalStateException
        int claimOpened(int source, int day, int k) throws NoSuchElementException, IllegalArgumentException, IllegalStateException
        int claimQuote(int source, int at) throws NoSuchElementException, IllegalStateException
        int claimForm(int k) throws NoSuchElementException, IllegalStateException
        int claimCite(int source, int form, int i) throws NoSuchElementException, IllegalStateException
        int claimCount(int what) throws IllegalArgumentException, IllegalStateException
        int rightUnit(int a, int b, int c, int d) throws IllegalStateException
        int rightRule() throws IllegalStateException
        boolean rightDrop(int rule) throws NoSuchElementException, IllegalStateException
        int rightPerson(int roles) throws IllegalArgumentException, IllegalStateException
        int rightEmbargo(int record, int until) throws NoSuchElementException, IllegalArgumentException, IllegalStateException
        int rightAgreement(int person, int record, int from, int to) throws NoSuchElementException, IllegalArgumentException, IllegalStateException
        int rightLook(int k, int what) throws NoSuchElementException, IllegalStateException
        int rightLooked(int record, int k) throws NoSuchElementException, IllegalStateException
        int rightExport(int person, int day) throws NoSuchElementException, IllegalArgumentException, IllegalStateException
        int rightExported(int k) throws NoSuchElementException, IllegalStateException
        int rightRequest(int person, int record, int day) throws NoSuchElementException, IllegalArgumentException, IllegalStateException
        int rightLimit(int person, int most) throws NoSuchElementException, IllegalArgumentException, IllegalStateException
        int rightIdle(int day) throws IllegalArgumentException, IllegalStateException
        int rightCount(int what) throws IllegalArgumentException, IllegalStateException
        int ticketSlot(int places) throws IllegalStateException, IllegalArgumentException
        void ticketOver(int slot, int above, int below, int riskAbove, int riskBelow) throws IndexOutOfBoundsException, IllegalArgumentException, IllegalStateException
        int ticketMost(int slot) throws IndexOutOfBoundsException, IllegalStateException
        int ticketOdds(int slot, int n, int k) throws IndexOutOfBoundsException, IllegalArgumentException, IllegalStateException
        int ticketSell(int slot, int n, int kind) throws IndexOutOfBoundsException, IllegalStateException, IllegalArgumentException
        int ticketBack(int ticket) throws IndexOutOfBoundsException, IllegalStateException
        int ticketWaits(int slot, int n, int kind) throws IndexOutOfBoundsException, IllegalStateException, IllegalArgumentException
        int ticketGiven(int request) throws IndexOutOfBoundsException, IllegalStateException
        int ticketUnit(int sign) throws IllegalStateException, IllegalArgumentException
        int ticketRules() throws IllegalStateException
        int ticketPrice(int ticket) throws IndexOutOfBoundsException, IllegalStateException
        int ticketAbout(int ticket, int what) throws IndexOutOfBoundsException, IllegalStateException
        int ticketCode(int ticket, int i) throws IndexOutOfBoundsException, IllegalStateException
        int ticketWhose(int code) throws IllegalStateException
        int ticketRead(int reader, int ticket, int second) throws IndexOutOfBoundsException, IllegalArgumentException, IllegalStateException
        int ticketJoin() throws IllegalStateException
        int ticketTwice(int k, int what) throws IndexOutOfBoundsException, IllegalStateException
        boolean ticketLeaves(int ticket, int second) throws IndexOutOfBoundsException, IllegalArgumentException, IllegalStateException
        int ticketInside(int second) throws IllegalArgumentException, IllegalStateException
        int ticketCount(int what) throws IndexOutOfBoundsException, IllegalStateException
        """;

    public static void main(String[] args) throws Exception {
        Due.compare("public final", Modifier.toString(DigHouse.class.getModifiers()));
        Due.compare("", DigHouse.class.getPackageName());
        constants();
        constructors();
        calls();
        inside();
        Due.end();
    }

    private static void constants() throws Exception {
        int open = 0;
        for (Field field : DigHouse.class.getDeclaredFields()) {
            open += Modifier.isPrivate(field.getModifiers()) ? 0 : 1;
        }
        Due.is(1, open(open));
        Field none = DigHouse.class.getField("NONE");
        Due.compare("public static final int NONE", Modifier.toString(none.getModifiers()) + " " + none.getType() + " " + none.getName());
        Due.is(-1, () -> DigHouse.NONE);
    }

    private static Due.Call open(int count) {
        return () -> count;
    }

    private static void constructors() {
        Constructor<?>[] all = DigHouse.class.getDeclaredConstructors();
        Due.is(1, () -> all.length);
        Due.compare("public DigHouse()", all[0].toString());
    }

    /** What is not private is in the face, and what is in the face is there, each just once. */
    private static void calls() {
        List<String> due = new ArrayList<>();
        for (String line : CALLS.split("\n")) {
            if (!line.isBlank()) {
                int behind = line.indexOf(')') + 1;
                due.add(line.substring(0, behind).strip().replaceAll(" \\w+(?=[,)])", "") + line.substring(behind));
            }
        }
        List<String> names = new ArrayList<>();
        int open = 0;
        for (Method m : DigHouse.class.getDeclaredMethods()) {
            if (!Modifier.isPrivate(m.getModifiers())) {
                open++;
                String got = told(m);
                Due.compare(got + " is in the face", got + (due.contains(got) ? " is in the face" : " is not in the face"));
                names.add(m.getName());
            }
        }
        Due.is(due.size(), open(open));
        for (Method m : DigHouse.class.getDeclaredMethods()) {
            if (Modifier.isPrivate(m.getModifiers())) {
                Due.compare(m.getName() + " false", m.getName() + " " + names.contains(m.getName()));
            }
        }
    }

    private static String told(Method m) {
        StringBuilder all = new StringBuilder();
        all.append(m.getReturnType()).append(' ').append(m.getName()).append('(');
        for (Class<?> type : m.getParameterTypes()) {
            all.append(all.charAt(all.length() - 1) == '(' ? "" : ", ").append(type);
        }
        all.append(')');
        String before = " throws ";
        for (Class<?> thrown : m.getExceptionTypes()) {
            all.append(before).append(thrown.getSimpleName());
            before = ", ";
        }
        Due.compare("public", Modifier.toString(m.getModifiers()));
        return all.toString();
    }

    /** Classes inside are not public, and static. */
    private static void inside() {
        for (Class<?> c : DigHouse.class.getDeclaredClasses()) {
            String told = Modifier.toString(c.getModifiers());
            Due.compare(c.getSimpleName() + " false", c.getSimpleName() + " " + (told.contains("public") || told.contains("protected")));
            Due.compare(c.getSimpleName() + " true", c.getSimpleName() + " " + told.contains("static"));
        }
        Due.compare("[]", Arrays.toString(DigHouse.class.getInterfaces()));
    }
}
