import java.util.ArrayList;
import java.util.Arrays;
import java.util.NoSuchElementException;

/**
 * A dig and its museum as one house. The parts stand each by itself in a class of its own; this class holds
 * the calls, what goes between the parts, and the rows from which the house is made again behind a cut of power.
 */
public final class DigHouse {

    public static final int NONE = -1;

    private static final int CONTEXTS = 16;
    private static final int FINDS = 20;
    private static final int OBJECTS = 10;
    private static final int ROOMS = 4;
    private static final int HOURS = 60;
    private static final int YEARS = 12;
    private static final int LAST_DAY = 100000;
    private static final int DAY = 24;
    private static final int PASS_DAYS = 1000;
    private static final int PASS_HOUR = 900000;
    private static final int DEGREES = 60000;
    private static final int DAMP = 60000;
    private static final int LUX = 5000;
    private static final int LUX_HOURS = 1000000;
    private static final int NEVER_WARM = -1000000;
    private static final int VISITORS = 99;
    private static final int SECONDS = 3600;

    private static final int LIMBS = 6;
    private static final int LIMB_DIGITS = 9;
    private static final long LIMB = 1000000000;

    /** A find: context, kind, community. */
    private static final int FIND = 3;
    /**
     * An object: its find, its claim of origin, how much light it may have, how much it had,
     * whether it was in a room, its warmest degrees there.
     */
    private static final int THING = 6;
    private static final int FOUND = 0;
    private static final int CLAIM = 1;
    private static final int SPARE = 2;
    private static final int LIGHT = 3;
    private static final int WAS_IN_ROOM = 4;
    private static final int WARM = 5;

    private static final int STOPPED_MOVE = 3;
    private static final int BROKEN_LOAN = 4;
    private static final int TOO_MUCH_LIGHT = 5;
    private static final int STOPPED_PACK = 6;
    private static final int STOPPED_LOAN = -2;
    private static final int NOT_IN_WORKSHOP = 800;
    private static final int STOPPED_TREATMENT = 801;
    private static final int OUT_ON_LOAN = 802;

    /** A row that was told: the call and up to five numbers. */
    private static final int ROWS = 1500;
    private static final int ROW = 6;
    private static final int ROW_BYTES = 22;
    private static final int REOPENS = 3;
    // The calls that tell a row, in the order in which they stand below; those of a part follow one another.
    private static final int TELL_CONTEXT = 0;
    private static final int TELL_PHASE = 1;
    private static final int TELL_HIDE = 2;
    private static final int TELL_DRAW = 3;
    private static final int TELL_DATED = 4;
    private static final int TELL_OUTLIER = 5;
    private static final int TELL_MEMBER = 6;
    private static final int TELL_SOLVE = 7;
    private static final int TELL_FIND = 8;
    private static final int TELL_OBJECT = 9;
    private static final int TELL_PLACE = 10;
    private static final int TELL_ROOM = 11;
    private static final int TELL_LAMP = 12;
    private static final int TELL_SPARE = 13;
    private static final int TELL_WORKSHOP = 14;
    private static final int TELL_HOUR = 15;
    private static final int TELL_PASS = 16;
    private static final int TELL_CARRY = 17;
    private static final int TELL_PACK = 18;
    private static final int TELL_LOSE = 19;
    private static final int TELL_LEND = 20;
    private static final int TELL_TREAT = 21;
    private static final int TELL_ORIGIN = 22;
    private static final int TELL_LOOK = 23;
    private static final int TELL_LAYER_RELATE = 24;
    private static final int TELL_LAYER_UNDO = 25;
    private static final int TELL_LAYER_GROUP = 26;
    private static final int TELL_LAYER_INTO = 27;
    private static final int TELL_LAYER_VERSION = 28;
    private static final int TELL_CURVE_ROW = 29;
    private static final int TELL_CURVE_EDITION = 30;
    private static final int TELL_CURVE_USE = 31;
    private static final int TELL_CURVE_RESERVOIR = 32;
    private static final int TELL_CURVE_DATE = 33;
    private static final int TELL_CURVE_SUM = 34;
    private static final int TELL_CURVE_MIX = 35;
    private static final int TELL_CURVE_JOIN_REPEATS = 36;
    private static final int TELL_CURVE_LEAST = 37;
    private static final int TELL_CURVE_GAP = 38;
    private static final int TELL_CURVE_CLEAR = 39;
    private static final int TELL_CURVE_UNIT = 40;
    private static final int TELL_CURVE_READ = 41;
    private static final int TELL_OWNER_ROW = 42;
    private static final int TELL_OWNER_SHARE = 43;
    private static final int TELL_OWNER_DOUBT = 44;
    private static final int TELL_OWNER_CORRECT = 45;
    private static final int TELL_OWNER_DANGER = 46;
    private static final int TELL_OWNER_CLAIM = 47;
    private static final int TELL_OWNER_SETTLE = 48;
    private static final int TELL_OWNER_TELL = 49;
    private static final int TELL_OWNER_LICENCE = 50;
    private static final int TELL_OWNER_SEAL = 51;
    private static final int TELL_OWNER_WORTH = 52;
    private static final int TELL_PLACE_KEYS = 53;
    private static final int TELL_PLACE_KEY = 54;
    private static final int TELL_PLACE_BOX = 55;
    private static final int TELL_PLACE_DOOR = 56;
    private static final int TELL_PLACE_PLANNED = 57;
    private static final int TELL_PLACE_QUIET = 58;
    private static final int TELL_TERM_UNIT = 59;
    private static final int TELL_TERM_READ = 60;
    private static final int TELL_TERM_FAILS = 61;
    private static final int TELL_TERM_SHIELD = 62;
    private static final int TELL_TERM_EXTEND = 63;
    private static final int TELL_TERM_REQUEST = 64;
    private static final int TELL_ROOM_SIZE = 65;
    private static final int TELL_ROOM_WALL = 66;
    private static final int TELL_ROOM_GOODS = 67;
    private static final int TELL_ROOM_ROW = 68;
    private static final int TELL_ROOM_MACHINE = 69;
    private static final int TELL_ROOM_RISK = 70;
    private static final int TELL_ROOM_RULE = 71;
    private static final int TELL_ROOM_SENSOR = 72;
    private static final int TELL_ROOM_CHECK = 73;
    private static final int TELL_METHOD_UNIT = 74;
    private static final int TELL_METHOD_READ = 75;
    private static final int TELL_METHOD_PART = 76;
    private static final int TELL_METHOD_RIGHT = 77;
    private static final int TELL_METHOD_TRIAL = 78;
    private static final int TELL_METHOD_STOCK = 79;
    private static final int TELL_METHOD_APART = 80;
    private static final int TELL_METHOD_PUT = 81;
    private static final int TELL_METHOD_PLAN = 82;
    private static final int TELL_CLAIM_UNIT = 83;
    private static final int TELL_CLAIM_CLEAR = 84;
    private static final int TELL_CLAIM_SOURCE = 85;
    private static final int TELL_CLAIM_NEW = 86;
    private static final int TELL_CLAIM_RESTS = 87;
    private static final int TELL_CLAIM_RESTS_ON = 88;
    private static final int TELL_CLAIM_LIFT = 89;
    private static final int TELL_CLAIM_WITHDRAW = 90;
    private static final int TELL_CLAIM_OPINION = 91;
    private static final int TELL_CLAIM_RULE = 92;
    private static final int TELL_CLAIM_FORM = 93;
    private static final int TELL_RIGHT_UNIT = 94;
    private static final int TELL_RIGHT_RULE = 95;
    private static final int TELL_RIGHT_DROP = 96;
    private static final int TELL_RIGHT_PERSON = 97;
    private static final int TELL_RIGHT_EMBARGO = 98;
    private static final int TELL_RIGHT_AGREEMENT = 99;
    private static final int TELL_RIGHT_EXPORT = 100;
    private static final int TELL_RIGHT_REQUEST = 101;
    private static final int TELL_RIGHT_LIMIT = 102;
    private static final int TELL_TICKET_SLOT = 103;
    private static final int TELL_TICKET_OVER = 104;
    private static final int TELL_TICKET_SELL = 105;
    private static final int TELL_TICKET_BACK = 106;
    private static final int TELL_TICKET_WAITS = 107;
    private static final int TELL_TICKET_UNIT = 108;
    private static final int TELL_TICKET_RULES = 109;
    private static final int TELL_TICKET_READ = 110;
    private static final int TELL_TICKET_JOIN = 111;
    private static final int TELL_TICKET_LEAVES = 112;

    private Layers layers;
    private Sheet sheet;
    private Curves curves;
    private Ways ways;
    private Owners owners;
    private Places places;
    private Terms terms;
    private ArrayList<Room> rooms;
    private Methods methods;
    private Claims claims;
    private Rights rights;
    private Tickets tickets;

    private int findCount;
    private final int[] finds = new int[FINDS * FIND];
    private final int[] things = new int[OBJECTS * THING];
    private int now;
    private int hoursRun;
    private int workshop;

    private final int[] rows = new int[ROWS * ROW];
    private int told;
    private int onDisk;
    private boolean isCut;
    private int reopened;

    public DigHouse() {
        begin();
    }
    // The dig

    public int context() throws IllegalStateException {
        mayTell();
        return kept(layers.add(), TELL_CONTEXT, 0, 0, 0, 0, 0);
    }

    public int phase(int context, int p) throws IndexOutOfBoundsException, IllegalArgumentException, IllegalStateException {
        mayTell();
        return kept(layers.setPhase(context, p), TELL_PHASE, context, p, 0, 0, 0);
    }

    public boolean hide(int context, boolean on) throws IndexOutOfBoundsException, IllegalStateException {
        mayTell();
        return kept(layers.setHidden(context, on), TELL_HIDE, context, on ? 1 : 0, 0, 0, 0);
    }

    public int draw(int rounds) throws IllegalArgumentException, IllegalStateException {
        mayTell();
        return kept(sheet.drawFrom(layers, rounds), TELL_DRAW, rounds, 0, 0, 0, 0);
    }

    public int dated(int context, int date)
            throws IndexOutOfBoundsException, java.util.NoSuchElementException, IllegalStateException {
        mayTell();
        requireIndex(layers.isContext(context));
        requireElement(date == NONE || curves.isDate(date));
        requireState(date == NONE || ways.mayHaveDate(context));
        return kept(ways.setDate(context, date), TELL_DATED, context, date, 0, 0, 0);
    }

    public void outlier(int context, int above, int below)
            throws IndexOutOfBoundsException, java.util.NoSuchElementException, IllegalArgumentException, IllegalStateException {
        mayTell();
        requireIndex(layers.isContext(context));
        requireElement(ways.hasDate(context));
        ways.setOutlier(context, above, below);
        keep(TELL_OUTLIER, context, above, below, 0, 0);
    }

    public boolean member(int context, boolean on)
            throws IndexOutOfBoundsException, java.util.NoSuchElementException, IllegalStateException {
        mayTell();
        requireIndex(layers.isContext(context));
        requireElement(ways.hasDate(context));
        return kept(ways.setMember(context, on), TELL_MEMBER, context, on ? 1 : 0, 0, 0, 0);
    }

    public int solve() throws IllegalStateException {
        mayTell();
        return kept(ways.solveFrom(layers, curves), TELL_SOLVE, 0, 0, 0, 0, 0);
    }

    // Finds, objects, places

    public int find(int context, int kind, int community)
            throws IndexOutOfBoundsException, IllegalArgumentException, IllegalStateException {
        mayTell();
        requireIndex(layers.isContext(context));
        requireArgument(Rights.isKind(kind) && (community == NONE || Rights.isCommunity(community)));
        requireState(findCount < FINDS);
        return kept(addFind(context, kind, community), TELL_FIND, context, kind, community, 0, 0);
    }

    public int object(int find, int w, int h, int d, int grams)
            throws java.util.NoSuchElementException, IllegalArgumentException, IllegalStateException {
        mayTell();
        requireElement(in(find, 0, findCount - 1));
        return kept(isObjectOf(find) ? NONE : makeObject(find, w, h, d, grams), TELL_OBJECT, find, w, h, d, grams);
    }

    public int place(int into, int load)
            throws java.util.NoSuchElementException, IllegalArgumentException, IllegalStateException {
        mayTell();
        return kept(places.addPlace(into, load), TELL_PLACE, into, load, 0, 0, 0);
    }

    // Rooms and the clock

    public int room(int place) throws java.util.NoSuchElementException, IllegalStateException {
        mayTell();
        requireElement(places.isPlace(place));
        requireState(rooms.size() < ROOMS);
        return kept(addRoom(place), TELL_ROOM, place, 0, 0, 0, 0);
    }

    public int lamp(int room, int lux)
            throws java.util.NoSuchElementException, IllegalArgumentException, IllegalStateException {
        mayTell();
        Room at = climate(room);
        requireArgument(in(lux, 0, LUX));
        int was = at.lamp;
        at.lamp = lux;
        return kept(was, TELL_LAMP, room, lux, 0, 0, 0);
    }

    public int spare(int object, int luxHours)
            throws java.util.NoSuchElementException, IllegalArgumentException, IllegalStateException {
        mayTell();
        requireElement(places.isObject(object));
        requireArgument(in(luxHours, NONE, LUX_HOURS));
        int was = things[object * THING + SPARE];
        things[object * THING + SPARE] = luxHours;
        return kept(was, TELL_SPARE, object, luxHours, 0, 0, 0);
    }

    public int workshop(int place) throws java.util.NoSuchElementException, IllegalStateException {
        mayTell();
        requireElement(place == NONE || places.isPlace(place));
        int was = workshop;
        workshop = place;
        return kept(was, TELL_WORKSHOP, place, 0, 0, 0, 0);
    }

    public int hour(int degrees, int damp) throws IllegalArgumentException, IllegalStateException {
        mayTell();
        requireArgument(in(degrees, -DEGREES, DEGREES) && in(damp, 0, DAMP));
        requireState(hoursRun < HOURS);
        runRooms(degrees, damp);
        lightObjects();
        int answer = 0;
        for (int loan = 0; loan < terms.loans(); loan++) {
            answer += terms.ask(loan, now) ? 1 : 0;
        }
        hoursRun++;
        now++;
        return kept(answer, TELL_HOUR, degrees, damp, 0, 0, 0);
    }

    public int pass(int days) throws IllegalArgumentException, IllegalStateException {
        mayTell();
        requireArgument(in(days, 1, PASS_DAYS) && now + days * DAY <= PASS_HOUR);
        now += days * DAY;
        return kept(now, TELL_PASS, days, 0, 0, 0, 0);
    }

    // Moves, loans, treatments

    public int carry(int object, int place, int a, int b) throws java.util.NoSuchElementException, IllegalStateException {
        mayTell();
        requireElement(places.isObject(object) && places.isPlace(place) && Places.isPerson(a) && Places.isPerson(b));
        int reason = reasonToStay(object, place);
        return kept(reason != 0 ? reason : places.move(object, place, now, a, b), TELL_CARRY, object, place, a, b, 0);
    }

    public int pack(int object, int box) throws java.util.NoSuchElementException, IllegalStateException {
        mayTell();
        requireElement(places.isObject(object) && places.isObject(box));
        int answer = owners.stops(object, day()) ? STOPPED_PACK : places.packInto(object, box, now);
        return kept(answer, TELL_PACK, object, box, 0, 0, 0);
    }

    public boolean lose(int object) throws java.util.NoSuchElementException, IllegalStateException {
        mayTell();
        requireElement(places.isObject(object));
        return kept(places.loseAt(object, now), TELL_LOSE, object, 0, 0, 0, 0);
    }

    public int lend(int contract, int object, int from, int to)
            throws IndexOutOfBoundsException, java.util.NoSuchElementException, IllegalArgumentException, IllegalStateException {
        mayTell();
        requireIndex(terms.isContract(contract));
        requireElement(places.isObject(object));
        requireArgument(from >= day() && to >= from && to <= LAST_DAY);
        requireState(terms.mayLend());
        int answer = owners.stops(object, day()) ? STOPPED_LOAN : terms.lendOut(contract, object, from, to);
        return kept(answer, TELL_LEND, contract, object, from, to, 0);
    }

    public int treat(int object, int method, int person, int second)
            throws java.util.NoSuchElementException, IndexOutOfBoundsException, IllegalStateException {
        mayTell();
        requireElement(places.isObject(object));
        requireIndex(methods.isMethod(method) && Methods.isPerson(person) && Methods.isPerson(second));
        requireState(methods.mayTreat(object));
        int reason = reasonToWait(object);
        int answer = reason != 0 ? reason : methods.doStep(object, method, person, second, now);
        return kept(answer, TELL_TREAT, object, method, person, second, 0);
    }

    // What is asked of all together

    public int origin(int object, int claim) throws java.util.NoSuchElementException, IllegalStateException {
        mayTell();
        requireElement(places.isObject(object) && (claim == NONE || claims.isClaim(claim)));
        int was = things[object * THING + CLAIM];
        things[object * THING + CLAIM] = claim;
        return kept(was, TELL_ORIGIN, object, claim, 0, 0, 0);
    }

    public int from(int object) throws java.util.NoSuchElementException, IllegalStateException {
        mayAsk();
        requireElement(places.isObject(object));
        return contextOf(object);
    }

    public int year(int object, int year, int digit) throws java.util.NoSuchElementException, IllegalStateException {
        mayAsk();
        requireElement(places.isObject(object));
        requireState(ways.isSolved());
        return ways.answered(contextOf(object), year, digit);
    }

    public int look(int person, int object, int field, int purpose)
            throws java.util.NoSuchElementException, IllegalStateException {
        mayTell();
        requireElement(rights.isPerson(person) && places.isObject(object) && Rights.isField(field) && Rights.isPurpose(purpose));
        int answer = rights.lookAt(person, object, field, purpose, day(), valueOf(object, field));
        return kept(answer, TELL_LOOK, person, object, field, purpose, 0);
    }

    public long shown() throws IllegalStateException {
        mayAsk();
        return rights.shownLatest();
    }

    public int present() throws IllegalStateException {
        mayAsk();
        return now;
    }

    public int light(int object) throws java.util.NoSuchElementException, IllegalStateException {
        mayAsk();
        requireElement(places.isObject(object));
        return things[object * THING + LIGHT];
    }

    public int warm(int object) throws java.util.NoSuchElementException, IllegalStateException {
        mayAsk();
        requireElement(places.isObject(object));
        return things[object * THING + WARM];
    }

    public int inRoom(int object) throws java.util.NoSuchElementException, IllegalStateException {
        mayAsk();
        requireElement(places.isObject(object));
        return roomOf(places.where(object, now));
    }

    public int broken(int loan) throws IndexOutOfBoundsException, IllegalStateException {
        mayAsk();
        return terms.answer(loan);
    }

    public int had(int what) throws java.util.NoSuchElementException, IllegalStateException {
        mayAsk();
        requireElement(in(what, 0, 5));
        switch (what) {
            case 0: return findCount;
            case 1: return places.objects;
            case 2: return rooms.size();
            case 3: return hoursRun;
            case 4: return told;
            default: return onDisk;
        }
    }

    // Rows on the disk

    public int save() throws IllegalStateException {
        mayAsk();
        onDisk = told;
        return onDisk;
    }

    public int cut(int kept) throws IllegalArgumentException, IllegalStateException {
        mayAsk();
        requireArgument(in(kept, 0, ROW_BYTES * (told - onDisk)));
        onDisk += kept / ROW_BYTES;
        isCut = true;
        return onDisk;
    }

    public int reopen() throws IllegalStateException {
        requireState(isCut && reopened < REOPENS);
        reopened++;
        isCut = false;
        begin();
        for (int i = 0; i < onDisk; i++) {
            int at = i * ROW;
            if (rows[at] < TELL_FIND) {
                retellDig(at);
            } else if (rows[at] < TELL_LAYER_RELATE) {
                retellMuseum(at);
            } else if (rows[at] < TELL_CURVE_ROW) {
                retellLayers(at);
            } else if (rows[at] < TELL_OWNER_ROW) {
                retellCurves(at);
            } else if (rows[at] < TELL_PLACE_KEYS) {
                retellOwners(at);
            } else if (rows[at] < TELL_TERM_UNIT) {
                retellPlaces(at);
            } else if (rows[at] < TELL_ROOM_SIZE) {
                retellTerms(at);
            } else if (rows[at] < TELL_METHOD_UNIT) {
                retellRooms(at);
            } else if (rows[at] < TELL_CLAIM_UNIT) {
                retellMethods(at);
            } else if (rows[at] < TELL_RIGHT_UNIT) {
                retellClaims(at);
            } else if (rows[at] < TELL_TICKET_SLOT) {
                retellRights(at);
            } else {
                retellTickets(at);
            }
        }
        return onDisk;
    }

    // Layers

    public int layerRelate(int a, int b, int kind) throws IndexOutOfBoundsException, IllegalStateException {
        mayTell();
        return kept(layers.relate(a, b, kind), TELL_LAYER_RELATE, a, b, kind, 0, 0);
    }

    public int layerRing(int k) throws IndexOutOfBoundsException, IllegalStateException {
        mayAsk();
        return layers.ringPlace(k);
    }

    public boolean layerUndo(int relation) throws IndexOutOfBoundsException, IllegalStateException {
        mayTell();
        return kept(layers.undo(relation), TELL_LAYER_UNDO, relation, 0, 0, 0, 0);
    }

    public int layerOrder(int a, int b) throws IndexOutOfBoundsException, IllegalStateException {
        mayAsk();
        return layers.order(a, b);
    }

    public int layerLinks() throws IllegalStateException {
        mayAsk();
        return layers.links();
    }

    public int layerLink(int k, int which) throws IndexOutOfBoundsException, IllegalStateException {
        mayAsk();
        return layers.link(k, which);
    }

    public int layerEqual(int context) throws IndexOutOfBoundsException, IllegalStateException {
        mayAsk();
        return layers.equal(context);
    }

    public boolean layerContemporary(int a, int b) throws IndexOutOfBoundsException, IllegalStateException {
        mayAsk();
        return layers.areContemporary(a, b);
    }

    public int layerLongest(int context) throws IndexOutOfBoundsException, IllegalStateException {
        mayAsk();
        return layers.longest(context);
    }

    public int layerGroup() throws IllegalStateException {
        mayTell();
        return kept(layers.addGroup(), TELL_LAYER_GROUP, 0, 0, 0, 0, 0);
    }

    public boolean layerInto(int group, int context) throws IndexOutOfBoundsException, IllegalStateException {
        mayTell();
        return kept(layers.into(group, context), TELL_LAYER_INTO, group, context, 0, 0, 0);
    }

    public int layerGroupRing(int k) throws IndexOutOfBoundsException, IllegalStateException {
        mayAsk();
        return layers.groupRingPlace(k);
    }

    public int layerGroupOf(int context) throws IndexOutOfBoundsException, IllegalStateException {
        mayAsk();
        return layers.groupOf(context);
    }

    public int layerVersion() throws IllegalStateException {
        mayTell();
        return kept(layers.addVersion(), TELL_LAYER_VERSION, 0, 0, 0, 0, 0);
    }

    public int layerDiffers(int one, int other, int k) throws IndexOutOfBoundsException, IllegalStateException {
        mayAsk();
        return layers.differs(one, other, k);
    }

    public int layerCount(int what) throws IndexOutOfBoundsException, IllegalStateException {
        mayAsk();
        return layers.count(what);
    }

    // Sheet

    public int sheetGroup(int context) throws IndexOutOfBoundsException, IllegalStateException {
        mayAsk();
        return sheet.groupOf(context);
    }

    public int sheetMisfit(int k, int which) throws IndexOutOfBoundsException, IllegalStateException {
        mayAsk();
        return sheet.misfit(k, which);
    }

    public int sheetCrossings(int k) throws IndexOutOfBoundsException, IllegalStateException {
        mayAsk();
        return sheet.crossingsBehind(k);
    }

    public int sheetAt(int context, int what) throws IndexOutOfBoundsException, IllegalStateException {
        mayAsk();
        return sheet.at(context, what);
    }

    public int sheetLinks() throws IllegalStateException {
        mayAsk();
        return sheet.links();
    }

    public int sheetLink(int k, int what) throws IndexOutOfBoundsException, IllegalStateException {
        mayAsk();
        return sheet.link(k, what);
    }

    public int sheetCommand(int i) throws IndexOutOfBoundsException, IllegalStateException {
        mayAsk();
        return sheet.command(i);
    }

    public int sheetCount(int what) throws IndexOutOfBoundsException, IllegalStateException {
        mayAsk();
        return sheet.count(what);
    }

    // Curves

    public boolean curveRow(int year, int age, int spread)
            throws IndexOutOfBoundsException, IllegalArgumentException, IllegalStateException {
        mayTell();
        return kept(curves.tellRow(year, age, spread), TELL_CURVE_ROW, year, age, spread, 0, 0);
    }

    public int curveEdition() throws IllegalStateException {
        mayTell();
        return kept(curves.addEdition(), TELL_CURVE_EDITION, 0, 0, 0, 0, 0);
    }

    public int curveUse(int edition) throws IndexOutOfBoundsException, IllegalStateException {
        mayTell();
        return kept(curves.use(edition), TELL_CURVE_USE, edition, 0, 0, 0, 0);
    }

    public void curveReservoir(int age, int spread) throws IllegalArgumentException, IllegalStateException {
        mayTell();
        curves.setReservoir(age, spread);
        keep(TELL_CURVE_RESERVOIR, age, spread, 0, 0, 0);
    }

    public int curveDate(int age, int spread) throws IllegalArgumentException, IllegalStateException {
        mayTell();
        return kept(curves.measure(age, spread), TELL_CURVE_DATE, age, spread, 0, 0, 0);
    }

    public int curveWeight(int date, int year) throws IndexOutOfBoundsException, IllegalStateException {
        mayAsk();
        return curves.weight(date, year);
    }

    public int curveTotal(int date) throws IndexOutOfBoundsException, IllegalStateException {
        mayAsk();
        return curves.total(date);
    }

    public int curveSum(int a, int b) throws IndexOutOfBoundsException, IllegalStateException {
        mayTell();
        return kept(curves.sum(a, b), TELL_CURVE_SUM, a, b, 0, 0, 0);
    }

    public int curveMix(int a, int b, int above, int below)
            throws IndexOutOfBoundsException, IllegalArgumentException, IllegalStateException {
        mayTell();
        return kept(curves.mix(a, b, above, below), TELL_CURVE_MIX, a, b, above, below, 0);
    }

    public int curveJoinRepeats(int a, int b) throws IndexOutOfBoundsException, IllegalStateException {
        mayTell();
        return kept(curves.joinRepeats(a, b), TELL_CURVE_JOIN_REPEATS, a, b, 0, 0, 0);
    }

    public int curveLeast(int date, int above, int below)
            throws IndexOutOfBoundsException, IllegalArgumentException, IllegalStateException {
        mayTell();
        return kept(curves.least(date, above, below), TELL_CURVE_LEAST, date, above, below, 0, 0);
    }

    public int curveSpan(int k, int end) throws IndexOutOfBoundsException, IllegalStateException {
        mayAsk();
        return curves.span(k, end);
    }

    public int curveGap(int date, int years)
            throws IndexOutOfBoundsException, IllegalArgumentException, IllegalStateException {
        mayTell();
        return kept(curves.addToRow(date, years), TELL_CURVE_GAP, date, years, 0, 0, 0);
    }

    public int curveSlid(int year) throws IndexOutOfBoundsException, IllegalStateException {
        mayAsk();
        return curves.slid(year);
    }

    public int curveWiggle() throws IllegalStateException {
        mayAsk();
        return curves.wiggle();
    }

    public int curveClear() throws IllegalStateException {
        mayTell();
        return kept(curves.clearRow(), TELL_CURVE_CLEAR, 0, 0, 0, 0, 0);
    }

    public int curveUnit(int a, int b) throws IllegalArgumentException, IllegalStateException {
        mayTell();
        return kept(curves.addSigns(a, b), TELL_CURVE_UNIT, a, b, 0, 0, 0);
    }

    public int curveRead() throws IllegalStateException {
        mayTell();
        return kept(curves.read(), TELL_CURVE_READ, 0, 0, 0, 0, 0);
    }

    public int curveCount(int what) throws IndexOutOfBoundsException, IllegalStateException {
        mayAsk();
        return curves.count(what);
    }

    // Ways

    public int wayTotal(int digit) throws java.util.NoSuchElementException, IllegalStateException {
        mayAsk();
        requireState(ways.isSolved());
        return ways.totalDigit(digit);
    }

    public int wayAnswered(int context, int year, int digit)
            throws IndexOutOfBoundsException, java.util.NoSuchElementException, IllegalStateException {
        mayAsk();
        requireState(ways.isSolved());
        requireIndex(layers.isContext(context));
        return ways.answered(context, year, digit);
    }

    public int wayBound(int which, int year, int digit) throws java.util.NoSuchElementException, IllegalStateException {
        mayAsk();
        requireState(ways.isSolved());
        return ways.bound(which, year, digit);
    }

    public int wayBoth(int a, int x, int b, int y, int digit)
            throws IndexOutOfBoundsException, java.util.NoSuchElementException, IllegalStateException {
        mayAsk();
        requireState(ways.isSolved());
        requireIndex(layers.isContext(a) && layers.isContext(b));
        return ways.both(a, x, b, y, digit);
    }

    public int waySpan(int context, int which)
            throws IndexOutOfBoundsException, java.util.NoSuchElementException, IllegalStateException {
        mayAsk();
        requireState(ways.isSolved());
        requireIndex(layers.isContext(context));
        return ways.span(context, which);
    }

    public int wayNarrow(int context, int above, int below)
            throws IndexOutOfBoundsException, java.util.NoSuchElementException, IllegalArgumentException, IllegalStateException {
        mayAsk();
        requireState(ways.isSolved());
        requireIndex(layers.isContext(context));
        return ways.narrow(context, above, below);
    }

    public boolean wayFits() throws java.util.NoSuchElementException, IllegalStateException {
        mayAsk();
        requireState(ways.isSolved());
        return ways.fits();
    }

    public int wayFitless(int k) throws java.util.NoSuchElementException, IllegalStateException {
        mayAsk();
        requireState(ways.isSolved());
        return ways.fitless(k);
    }

    public int wayCount(int what) throws java.util.NoSuchElementException, IllegalStateException {
        mayAsk();
        requireState(ways.isSolved());
        return ways.count(what);
    }

    // Owners

    public int ownerRow(int thing, int person, int from, int to, int told)
            throws java.util.NoSuchElementException, IllegalArgumentException, IllegalStateException {
        mayTell();
        return kept(owners.tellRow(thing, person, from, to, told), TELL_OWNER_ROW, thing, person, from, to, told);
    }

    public void ownerShare(int row, int above, int below)
            throws java.util.NoSuchElementException, IllegalArgumentException, IllegalStateException {
        mayTell();
        owners.setShare(row, above, below);
        keep(TELL_OWNER_SHARE, row, above, below, 0, 0);
    }

    public boolean ownerDoubt(int row, boolean on) throws java.util.NoSuchElementException, IllegalStateException {
        mayTell();
        return kept(owners.setDoubt(row, on), TELL_OWNER_DOUBT, row, on ? 1 : 0, 0, 0, 0);
    }

    public void ownerCorrect(int row, int field, int v, int told)
            throws java.util.NoSuchElementException, IllegalArgumentException, IllegalStateException {
        mayTell();
        owners.correct(row, field, v, told);
        keep(TELL_OWNER_CORRECT, row, field, v, told, 0);
    }

    public int ownerKnown(int row, int field, int day)
            throws java.util.NoSuchElementException, IllegalArgumentException, IllegalStateException {
        mayAsk();
        return owners.known(row, field, day);
    }

    public int ownerGap(int thing, int k, int end, int day)
            throws java.util.NoSuchElementException, IllegalArgumentException, IllegalStateException {
        mayAsk();
        return owners.gap(thing, k, end, day);
    }

    public int ownerHeld(int thing, int on, int day, int part)
            throws java.util.NoSuchElementException, IllegalArgumentException, IllegalStateException {
        mayAsk();
        return owners.held(thing, on, day, part);
    }

    public int ownerDanger(int person, int from, int to)
            throws java.util.NoSuchElementException, IllegalArgumentException, IllegalStateException {
        mayTell();
        return kept(owners.addDanger(person, from, to), TELL_OWNER_DANGER, person, from, to, 0, 0);
    }

    public int ownerAsked(int thing, int k, int day)
            throws java.util.NoSuchElementException, IllegalArgumentException, IllegalStateException {
        mayAsk();
        return owners.asked(thing, k, day);
    }

    public int ownerClaim(int thing, int person, int day)
            throws java.util.NoSuchElementException, IllegalArgumentException, IllegalStateException {
        mayTell();
        return kept(owners.addClaim(thing, person, day), TELL_OWNER_CLAIM, thing, person, day, 0, 0);
    }

    public void ownerSettle(int claim, int day)
            throws java.util.NoSuchElementException, IllegalArgumentException, IllegalStateException {
        mayTell();
        owners.settle(claim, day);
        keep(TELL_OWNER_SETTLE, claim, day, 0, 0, 0);
    }

    public boolean ownerStops(int thing, int day)
            throws java.util.NoSuchElementException, IllegalArgumentException, IllegalStateException {
        mayAsk();
        return owners.stops(thing, day);
    }

    public void ownerTell(int what, int a, int b)
            throws java.util.NoSuchElementException, IllegalArgumentException, IllegalStateException {
        mayTell();
        owners.tellRight(what, a, b);
        keep(TELL_OWNER_TELL, what, a, b, 0, 0);
    }

    public int ownerRights(int thing, int kind, int day)
            throws java.util.NoSuchElementException, IllegalArgumentException, IllegalStateException {
        mayAsk();
        return owners.rights(thing, kind, day);
    }

    public int ownerLicence(int thing, int use, int from, int to)
            throws java.util.NoSuchElementException, IllegalArgumentException, IllegalStateException {
        mayTell();
        return kept(owners.addLicence(thing, use, from, to), TELL_OWNER_LICENCE, thing, use, from, to, 0);
    }

    public boolean ownerLicensed(int thing, int use, int day)
            throws java.util.NoSuchElementException, IllegalArgumentException, IllegalStateException {
        mayAsk();
        return owners.isLicensed(thing, use, day);
    }

    public boolean ownerSeal(int row, int role, boolean on) throws java.util.NoSuchElementException, IllegalStateException {
        mayTell();
        return kept(owners.seal(row, role, on), TELL_OWNER_SEAL, row, role, on ? 1 : 0, 0, 0);
    }

    public int ownerSeen(int thing, int role, int k, int day)
            throws java.util.NoSuchElementException, IllegalArgumentException, IllegalStateException {
        mayAsk();
        return owners.seen(thing, role, k, day);
    }

    public int ownerWorth(int thing, int day, int currency, int v)
            throws java.util.NoSuchElementException, IllegalArgumentException, IllegalStateException {
        mayTell();
        return kept(owners.addWorth(thing, day, currency, v), TELL_OWNER_WORTH, thing, day, currency, v, 0);
    }

    public int ownerValue(int thing, int day, int currency)
            throws java.util.NoSuchElementException, IllegalArgumentException, IllegalStateException {
        mayAsk();
        return owners.value(thing, day, currency);
    }

    public int ownerChain(int thing, int day, int i)
            throws java.util.NoSuchElementException, IllegalArgumentException, IllegalStateException {
        mayAsk();
        return owners.chainSign(thing, day, i);
    }

    // Places

    public int placeKeys(int object, int n)
            throws java.util.NoSuchElementException, IllegalArgumentException, IllegalStateException {
        mayTell();
        return kept(places.setKeys(object, n), TELL_PLACE_KEYS, object, n, 0, 0, 0);
    }

    public boolean placeKey(int person, boolean has) throws java.util.NoSuchElementException, IllegalStateException {
        mayTell();
        return kept(places.setKey(person, has), TELL_PLACE_KEY, person, has ? 1 : 0, 0, 0, 0);
    }

    public boolean placeBox(int object) throws java.util.NoSuchElementException, IllegalStateException {
        mayTell();
        return kept(places.makeBox(object), TELL_PLACE_BOX, object, 0, 0, 0, 0);
    }

    public int placeWhere(int object, int hour) throws java.util.NoSuchElementException, IllegalStateException {
        mayAsk();
        return places.whereAt(object, hour);
    }

    public int placeLast(int object) throws java.util.NoSuchElementException, IllegalStateException {
        mayAsk();
        return places.last(object);
    }

    public int placeHistory(int object, int k, int what)
            throws java.util.NoSuchElementException, IllegalArgumentException, IllegalStateException {
        mayAsk();
        return places.history(object, k, what);
    }

    public int placeDoor(int a, int b, int w, int h)
            throws java.util.NoSuchElementException, IllegalArgumentException, IllegalStateException {
        mayTell();
        return kept(places.addDoor(a, b, w, h), TELL_PLACE_DOOR, a, b, w, h, 0);
    }

    public boolean placePasses(int object, int door) throws java.util.NoSuchElementException, IllegalStateException {
        mayAsk();
        return places.passes(object, door);
    }

    public int placeWay(int object, int to) throws java.util.NoSuchElementException, IllegalStateException {
        mayAsk();
        return places.way(object, to);
    }

    public int placePlanned(int object, int place, int from, int to)
            throws java.util.NoSuchElementException, IllegalArgumentException, IllegalStateException {
        mayTell();
        return kept(places.plan(object, place, from, to), TELL_PLACE_PLANNED, object, place, from, to, 0);
    }

    public int placeUsed(int place, int hour) throws java.util.NoSuchElementException, IllegalStateException {
        mayAsk();
        return places.used(place, hour);
    }

    public void placeQuiet(int place, int from, int to)
            throws java.util.NoSuchElementException, IllegalArgumentException, IllegalStateException {
        mayTell();
        places.addQuiet(place, from, to);
        keep(TELL_PLACE_QUIET, place, from, to, 0, 0);
    }

    public int placeCount(int what) throws IllegalArgumentException, IllegalStateException {
        mayAsk();
        return places.count(what);
    }

    // Terms

    public int termUnit(int sign) throws IllegalStateException, IllegalArgumentException {
        mayTell();
        return kept(terms.addSign(sign), TELL_TERM_UNIT, sign, 0, 0, 0, 0);
    }

    public int termRead() throws IllegalStateException {
        mayTell();
        return kept(terms.read(), TELL_TERM_READ, 0, 0, 0, 0, 0);
    }

    public int termMany(int contract) throws IndexOutOfBoundsException, IllegalStateException {
        mayAsk();
        return terms.many(contract);
    }

    public int termWritten(int contract, int i) throws IndexOutOfBoundsException, IllegalStateException {
        mayAsk();
        return terms.written(contract, i);
    }

    public void termFails(int name, int from, int to)
            throws IndexOutOfBoundsException, IllegalArgumentException, IllegalStateException {
        mayTell();
        terms.setFails(name, from, to);
        keep(TELL_TERM_FAILS, name, from, to, 0, 0);
    }

    public boolean termShield(int loan, boolean on) throws IndexOutOfBoundsException, IllegalStateException {
        mayTell();
        return kept(terms.shield(loan, on), TELL_TERM_SHIELD, loan, on ? 1 : 0, 0, 0, 0);
    }

    public int termOpen(int loan, int hour, int k)
            throws IndexOutOfBoundsException, IllegalArgumentException, IllegalStateException {
        mayAsk();
        return terms.openTerm(loan, hour, k);
    }

    public int termTold(int loan, int k, int what) throws IndexOutOfBoundsException, IllegalStateException {
        mayAsk();
        return terms.toldOf(loan, k, what);
    }

    public int termExtend(int loan, int to, int day)
            throws IndexOutOfBoundsException, IllegalArgumentException, IllegalStateException {
        mayTell();
        return kept(terms.extend(loan, to, day), TELL_TERM_EXTEND, loan, to, day, 0, 0);
    }

    public int termRequest(int thing, int from, int to)
            throws IndexOutOfBoundsException, IllegalStateException, IllegalArgumentException {
        mayTell();
        return kept(terms.request(thing, from, to), TELL_TERM_REQUEST, thing, from, to, 0, 0);
    }

    public int termClash(int k, int which) throws IndexOutOfBoundsException, IllegalStateException {
        mayAsk();
        return terms.clash(k, which);
    }

    public int termDays(int loan) throws IndexOutOfBoundsException, IllegalStateException {
        mayAsk();
        return terms.days(loan);
    }

    public int termFee(int loan) throws IndexOutOfBoundsException, IllegalStateException {
        mayAsk();
        return terms.fee(loan);
    }

    public int termLetter(int loan, int i) throws IndexOutOfBoundsException, IllegalStateException {
        mayAsk();
        return terms.letter(loan, i);
    }

    public int termCount(int what) throws IndexOutOfBoundsException, IllegalStateException {
        mayAsk();
        return terms.count(what);
    }

    // Rooms

    public void roomSize(int room, int volume, int share)
            throws java.util.NoSuchElementException, IllegalArgumentException, IllegalStateException {
        mayTell();
        climate(room).setSize(volume, share);
        keep(TELL_ROOM_SIZE, room, volume, share, 0, 0);
    }

    public int roomWall(int room, int conductance, int capacity)
            throws java.util.NoSuchElementException, IllegalStateException, IllegalArgumentException {
        mayTell();
        return kept(climate(room).addLayer(conductance, capacity), TELL_ROOM_WALL, room, conductance, capacity, 0, 0);
    }

    public int roomGoods(int room, int kilograms)
            throws java.util.NoSuchElementException, IllegalArgumentException, IllegalStateException {
        mayTell();
        return kept(climate(room).setGoods(kilograms), TELL_ROOM_GOODS, room, kilograms, 0, 0, 0);
    }

    public int roomRow(int room, int damp, int milligrams)
            throws java.util.NoSuchElementException, IllegalStateException, IllegalArgumentException {
        mayTell();
        return kept(climate(room).addGoodsRow(damp, milligrams), TELL_ROOM_ROW, room, damp, milligrams, 0, 0);
    }

    public void roomMachine(int room, int kind, int low, int high, int rate)
            throws java.util.NoSuchElementException, IndexOutOfBoundsException, IllegalArgumentException, IllegalStateException {
        mayTell();
        climate(room).setMachine(kind, low, high, rate);
        keep(TELL_ROOM_MACHINE, room, kind, low, high, rate);
    }

    public int roomDegrees(int room) throws java.util.NoSuchElementException, IllegalStateException {
        mayAsk();
        return climate(room).degrees();
    }

    public int roomDamp(int room) throws java.util.NoSuchElementException, IllegalStateException {
        mayAsk();
        return climate(room).damp();
    }

    public int roomLayer(int room, int k)
            throws java.util.NoSuchElementException, IndexOutOfBoundsException, IllegalStateException {
        mayAsk();
        return climate(room).layerAt(k);
    }

    public int roomHeld(int room) throws java.util.NoSuchElementException, IllegalStateException {
        mayAsk();
        return climate(room).held();
    }

    public boolean roomOn(int room, int kind)
            throws java.util.NoSuchElementException, IndexOutOfBoundsException, IllegalStateException {
        mayAsk();
        return climate(room).isOn(kind);
    }

    public long roomBook(int room, int kind, int what)
            throws java.util.NoSuchElementException, IndexOutOfBoundsException, IllegalStateException {
        mayAsk();
        return climate(room).bookOf(kind, what);
    }

    public boolean roomDew(int room, int k)
            throws java.util.NoSuchElementException, IndexOutOfBoundsException, IllegalStateException {
        mayAsk();
        return climate(room).hasDew(k);
    }

    public int roomRisk(int room, int kind, int level, int points)
            throws java.util.NoSuchElementException, IndexOutOfBoundsException, IllegalStateException, IllegalArgumentException {
        mayTell();
        return kept(climate(room).addRisk(kind, level, points), TELL_ROOM_RISK, room, kind, level, points, 0);
    }

    public int roomPoints(int room, int kind)
            throws java.util.NoSuchElementException, IndexOutOfBoundsException, IllegalStateException {
        mayAsk();
        return climate(room).pointsOf(kind);
    }

    public int roomRule(int room, int kind, int level, int hold)
            throws java.util.NoSuchElementException, IllegalStateException, IllegalArgumentException {
        mayTell();
        return kept(climate(room).addRule(kind, level, hold), TELL_ROOM_RULE, room, kind, level, hold, 0);
    }

    public int roomAlarm(int room, int rule, int k)
            throws java.util.NoSuchElementException, IndexOutOfBoundsException, IllegalStateException {
        mayAsk();
        return climate(room).alarm(rule, k);
    }

    public void roomSensor(int room, int hour, int v)
            throws java.util.NoSuchElementException, IndexOutOfBoundsException, IllegalArgumentException, IllegalStateException {
        mayTell();
        climate(room).sense(hour, v);
        keep(TELL_ROOM_SENSOR, room, hour, v, 0, 0);
    }

    public void roomCheck(int room, int hour, int right)
            throws java.util.NoSuchElementException, IndexOutOfBoundsException, IllegalStateException, IllegalArgumentException {
        mayTell();
        climate(room).check(hour, right);
        keep(TELL_ROOM_CHECK, room, hour, right, 0, 0);
    }

    public int roomCorrected(int room, int hour)
            throws java.util.NoSuchElementException, IndexOutOfBoundsException, IllegalStateException {
        mayAsk();
        return climate(room).corrected(hour);
    }

    public int roomSilent(int room, int from)
            throws java.util.NoSuchElementException, IndexOutOfBoundsException, IllegalStateException {
        mayAsk();
        return climate(room).silentFrom(from);
    }

    public int roomPlan(int room, int hours, int degrees, int damp)
            throws java.util.NoSuchElementException, IllegalArgumentException, IllegalStateException {
        mayAsk();
        return climate(room).plan(hours, degrees, damp);
    }

    public int roomCount(int room, int what)
            throws java.util.NoSuchElementException, IndexOutOfBoundsException, IllegalStateException {
        mayAsk();
        return climate(room).count(what);
    }

    // Methods

    public int methodUnit(int sign) throws IllegalStateException, IllegalArgumentException {
        mayTell();
        return kept(methods.addSign(sign), TELL_METHOD_UNIT, sign, 0, 0, 0, 0);
    }

    public int methodRead() throws IllegalStateException {
        mayTell();
        return kept(methods.read(), TELL_METHOD_READ, 0, 0, 0, 0, 0);
    }

    public int methodUses(int method, int good) throws IndexOutOfBoundsException, IllegalStateException {
        mayAsk();
        return methods.usesOf(method, good);
    }

    public int methodPart(int object, int material) throws IndexOutOfBoundsException, IllegalStateException {
        mayTell();
        return kept(methods.addPart(object, material), TELL_METHOD_PART, object, material, 0, 0, 0);
    }

    public boolean methodRight(int person, int method, boolean on) throws IndexOutOfBoundsException, IllegalStateException {
        mayTell();
        return kept(methods.setRight(person, method, on), TELL_METHOD_RIGHT, person, method, on ? 1 : 0, 0, 0);
    }

    public boolean methodTrial(int method, int material, boolean good)
            throws IndexOutOfBoundsException, IllegalStateException {
        mayTell();
        return kept(methods.setTrial(method, material, good), TELL_METHOD_TRIAL, method, material, good ? 1 : 0, 0, 0);
    }

    public int methodReason(int object, int method, int person, int hour)
            throws IndexOutOfBoundsException, IllegalArgumentException, IllegalStateException {
        mayAsk();
        return methods.reasonOf(object, method, person, hour);
    }

    public int methodRow(int object, int k, int what) throws IndexOutOfBoundsException, IllegalStateException {
        mayAsk();
        return methods.row(object, k, what);
    }

    public int methodStock(int good, int change)
            throws IndexOutOfBoundsException, IllegalArgumentException, IllegalStateException {
        mayTell();
        return kept(methods.changeStock(good, change), TELL_METHOD_STOCK, good, change, 0, 0, 0);
    }

    public long methodAbout(int good, int what) throws IndexOutOfBoundsException, IllegalStateException {
        mayAsk();
        return methods.about(good, what);
    }

    public boolean methodApart(int a, int b) throws IndexOutOfBoundsException, IllegalStateException {
        mayTell();
        return kept(methods.putApart(a, b), TELL_METHOD_APART, a, b, 0, 0, 0);
    }

    public int methodPut(int good, int shelf) throws IndexOutOfBoundsException, IllegalStateException {
        mayTell();
        return kept(methods.putOn(good, shelf), TELL_METHOD_PUT, good, shelf, 0, 0, 0);
    }

    public int methodPlan(int object, int set) throws IndexOutOfBoundsException, IllegalStateException {
        mayTell();
        return kept(methods.planFor(object, set), TELL_METHOD_PLAN, object, set, 0, 0, 0);
    }

    public int methodStep(int k) throws IndexOutOfBoundsException, IllegalStateException {
        mayAsk();
        return methods.step(k);
    }

    public int methodCount(int what) throws IndexOutOfBoundsException, IllegalStateException {
        mayAsk();
        return methods.count(what);
    }

    // Claims

    public int claimUnit(int sign) throws IllegalArgumentException, IllegalStateException {
        mayTell();
        return kept(claims.addSign(sign), TELL_CLAIM_UNIT, sign, 0, 0, 0, 0);
    }

    public int claimClear() throws IllegalStateException {
        mayTell();
        return kept(claims.clear(), TELL_CLAIM_CLEAR, 0, 0, 0, 0, 0);
    }

    public int claimSource(int kind, int day) throws IllegalArgumentException, IllegalStateException {
        mayTell();
        return kept(claims.addSource(kind, day), TELL_CLAIM_SOURCE, kind, day, 0, 0, 0);
    }

    public int claimNew() throws IllegalStateException {
        mayTell();
        return kept(claims.addClaim(), TELL_CLAIM_NEW, 0, 0, 0, 0, 0);
    }

    public boolean claimRests(int claim, int source, boolean on)
            throws java.util.NoSuchElementException, IllegalStateException {
        mayTell();
        return kept(claims.rest(claim, source, on), TELL_CLAIM_RESTS, claim, source, on ? 1 : 0, 0, 0);
    }

    public int claimRestsOn(int claim, int other) throws java.util.NoSuchElementException, IllegalStateException {
        mayTell();
        return kept(claims.restOn(claim, other), TELL_CLAIM_RESTS_ON, claim, other, 0, 0, 0);
    }

    public int claimRing(int k) throws java.util.NoSuchElementException, IllegalStateException {
        mayAsk();
        return claims.ringPlace(k);
    }

    public boolean claimLift(int claim, int other) throws java.util.NoSuchElementException, IllegalStateException {
        mayTell();
        return kept(claims.lift(claim, other), TELL_CLAIM_LIFT, claim, other, 0, 0, 0);
    }

    public int claimWithdraw(int source, int day)
            throws java.util.NoSuchElementException, IllegalArgumentException, IllegalStateException {
        mayTell();
        return kept(claims.withdraw(source, day), TELL_CLAIM_WITHDRAW, source, day, 0, 0, 0);
    }

    public int claimOpinion(int person, int claim, int v, int day, int rank)
            throws java.util.NoSuchElementException, IllegalArgumentException, IllegalStateException {
        mayTell();
        return kept(claims.addOpinion(person, claim, v, day, rank), TELL_CLAIM_OPINION, person, claim, v, day, rank);
    }

    public int claimRule(int claim, int kind)
            throws java.util.NoSuchElementException, IllegalArgumentException, IllegalStateException {
        mayTell();
        return kept(claims.setRule(claim, kind), TELL_CLAIM_RULE, claim, kind, 0, 0, 0);
    }

    public int claimAgreed(int claim, int day)
            throws java.util.NoSuchElementException, IllegalArgumentException, IllegalStateException {
        mayAsk();
        return claims.agreed(claim, day);
    }

    public int claimDissent(int claim, int day, int k)
            throws java.util.NoSuchElementException, IllegalArgumentException, IllegalStateException {
        mayAsk();
        return claims.dissent(claim, day, k);
    }

    public boolean claimHeld(int claim, int day)
            throws java.util.NoSuchElementException, IllegalArgumentException, IllegalStateException {
        mayAsk();
        return claims.isHeld(claim, day);
    }

    public int claimOpened(int source, int day, int k)
            throws java.util.NoSuchElementException, IllegalArgumentException, IllegalStateException {
        mayAsk();
        return claims.opened(source, day, k);
    }

    public int claimQuote(int source, int at) throws java.util.NoSuchElementException, IllegalStateException {
        mayAsk();
        return claims.quote(source, at);
    }

    public int claimForm(int k) throws java.util.NoSuchElementException, IllegalStateException {
        mayTell();
        return kept(claims.setForm(k), TELL_CLAIM_FORM, k, 0, 0, 0, 0);
    }

    public int claimCite(int source, int form, int i) throws java.util.NoSuchElementException, IllegalStateException {
        mayAsk();
        return claims.cite(source, form, i);
    }

    public int claimCount(int what) throws IllegalArgumentException, IllegalStateException {
        mayAsk();
        return claims.count(what);
    }

    // Rights

    public int rightUnit(int a, int b, int c, int d) throws IllegalStateException {
        mayTell();
        return kept(rights.addSigns(a, b, c, d), TELL_RIGHT_UNIT, a, b, c, d, 0);
    }

    public int rightRule() throws IllegalStateException {
        mayTell();
        return kept(rights.addRule(), TELL_RIGHT_RULE, 0, 0, 0, 0, 0);
    }

    public boolean rightDrop(int rule) throws java.util.NoSuchElementException, IllegalStateException {
        mayTell();
        return kept(rights.drop(rule), TELL_RIGHT_DROP, rule, 0, 0, 0, 0);
    }

    public int rightPerson(int roles) throws IllegalArgumentException, IllegalStateException {
        mayTell();
        return kept(rights.addPerson(roles), TELL_RIGHT_PERSON, roles, 0, 0, 0, 0);
    }

    public int rightEmbargo(int record, int until)
            throws java.util.NoSuchElementException, IllegalArgumentException, IllegalStateException {
        mayTell();
        return kept(rights.embargo(record, until), TELL_RIGHT_EMBARGO, record, until, 0, 0, 0);
    }

    public int rightAgreement(int person, int record, int from, int to)
            throws java.util.NoSuchElementException, IllegalArgumentException, IllegalStateException {
        mayTell();
        return kept(rights.addAgreement(person, record, from, to), TELL_RIGHT_AGREEMENT, person, record, from, to, 0);
    }

    public int rightLook(int k, int what) throws java.util.NoSuchElementException, IllegalStateException {
        mayAsk();
        return rights.keptLook(k, what);
    }

    public int rightLooked(int record, int k) throws java.util.NoSuchElementException, IllegalStateException {
        mayAsk();
        return rights.lookedAt(record, k);
    }

    public int rightExport(int person, int day)
            throws java.util.NoSuchElementException, IllegalArgumentException, IllegalStateException {
        mayTell();
        return kept(rights.export(person, day), TELL_RIGHT_EXPORT, person, day, 0, 0, 0);
    }

    public int rightExported(int k) throws java.util.NoSuchElementException, IllegalStateException {
        mayAsk();
        return rights.exportedRecord(k);
    }

    public int rightRequest(int person, int record, int day)
            throws java.util.NoSuchElementException, IllegalArgumentException, IllegalStateException {
        mayTell();
        return kept(rights.request(person, record, day), TELL_RIGHT_REQUEST, person, record, day, 0, 0);
    }

    public int rightLimit(int person, int most)
            throws java.util.NoSuchElementException, IllegalArgumentException, IllegalStateException {
        mayTell();
        return kept(rights.limit(person, most), TELL_RIGHT_LIMIT, person, most, 0, 0, 0);
    }

    public int rightIdle(int day) throws IllegalArgumentException, IllegalStateException {
        mayAsk();
        return rights.idle(day);
    }

    public int rightCount(int what) throws IllegalArgumentException, IllegalStateException {
        mayAsk();
        return rights.count(what);
    }

    // Tickets

    public int ticketSlot(int places) throws IllegalStateException, IllegalArgumentException {
        mayTell();
        return kept(tickets.addSlot(places), TELL_TICKET_SLOT, places, 0, 0, 0, 0);
    }

    public void ticketOver(int slot, int above, int below, int riskAbove, int riskBelow)
            throws IndexOutOfBoundsException, IllegalArgumentException, IllegalStateException {
        mayTell();
        tickets.tellOver(slot, above, below, riskAbove, riskBelow);
        keep(TELL_TICKET_OVER, slot, above, below, riskAbove, riskBelow);
    }

    public int ticketMost(int slot) throws IndexOutOfBoundsException, IllegalStateException {
        mayAsk();
        return tickets.mostOf(slot);
    }

    public int ticketOdds(int slot, int n, int k)
            throws IndexOutOfBoundsException, IllegalArgumentException, IllegalStateException {
        mayAsk();
        return tickets.oddsDigit(slot, n, k);
    }

    public int ticketSell(int slot, int n, int kind)
            throws IndexOutOfBoundsException, IllegalStateException, IllegalArgumentException {
        mayTell();
        return kept(tickets.sell(slot, n, kind), TELL_TICKET_SELL, slot, n, kind, 0, 0);
    }

    public int ticketBack(int ticket) throws IndexOutOfBoundsException, IllegalStateException {
        mayTell();
        return kept(tickets.giveBack(ticket), TELL_TICKET_BACK, ticket, 0, 0, 0, 0);
    }

    public int ticketWaits(int slot, int n, int kind)
            throws IndexOutOfBoundsException, IllegalStateException, IllegalArgumentException {
        mayTell();
        return kept(tickets.addRequest(slot, n, kind), TELL_TICKET_WAITS, slot, n, kind, 0, 0);
    }

    public int ticketGiven(int request) throws IndexOutOfBoundsException, IllegalStateException {
        mayAsk();
        return tickets.given(request);
    }

    public int ticketUnit(int sign) throws IllegalStateException, IllegalArgumentException {
        mayTell();
        return kept(tickets.addSign(sign), TELL_TICKET_UNIT, sign, 0, 0, 0, 0);
    }

    public int ticketRules() throws IllegalStateException {
        mayTell();
        return kept(tickets.readRules(), TELL_TICKET_RULES, 0, 0, 0, 0, 0);
    }

    public int ticketPrice(int ticket) throws IndexOutOfBoundsException, IllegalStateException {
        mayAsk();
        return tickets.price(ticket);
    }

    public int ticketAbout(int ticket, int what) throws IndexOutOfBoundsException, IllegalStateException {
        mayAsk();
        return tickets.about(ticket, what);
    }

    public int ticketCode(int ticket, int i) throws IndexOutOfBoundsException, IllegalStateException {
        mayAsk();
        return tickets.codeDigit(ticket, i);
    }

    public int ticketWhose(int code) throws IllegalStateException {
        mayAsk();
        return tickets.whose(code);
    }

    public int ticketRead(int reader, int ticket, int second)
            throws IndexOutOfBoundsException, IllegalArgumentException, IllegalStateException {
        mayTell();
        return kept(tickets.letIn(reader, ticket, second), TELL_TICKET_READ, reader, ticket, second, 0, 0);
    }

    public int ticketJoin() throws IllegalStateException {
        mayTell();
        return kept(tickets.join(), TELL_TICKET_JOIN, 0, 0, 0, 0, 0);
    }

    public int ticketTwice(int k, int what) throws IndexOutOfBoundsException, IllegalStateException {
        mayAsk();
        return tickets.twice(k, what);
    }

    public boolean ticketLeaves(int ticket, int second)
            throws IndexOutOfBoundsException, IllegalArgumentException, IllegalStateException {
        mayTell();
        return kept(tickets.leaves(ticket, second), TELL_TICKET_LEAVES, ticket, second, 0, 0, 0);
    }

    public int ticketInside(int second) throws IllegalArgumentException, IllegalStateException {
        mayAsk();
        return tickets.insideAt(second);
    }

    public int ticketCount(int what) throws IndexOutOfBoundsException, IllegalStateException {
        mayAsk();
        return tickets.count(what);
    }

    private void retellDig(int at) {
        int a = rows[at + 1];
        int b = rows[at + 2];
        int c = rows[at + 3];
        switch (rows[at]) {
            case TELL_CONTEXT: context(); break;
            case TELL_PHASE: phase(a, b); break;
            case TELL_HIDE: hide(a, b != 0); break;
            case TELL_DRAW: draw(a); break;
            case TELL_DATED: dated(a, b); break;
            case TELL_OUTLIER: outlier(a, b, c); break;
            case TELL_MEMBER: member(a, b != 0); break;
            case TELL_SOLVE: solve(); break;
            default: break;
        }
    }

    private void retellMuseum(int at) {
        int a = rows[at + 1];
        int b = rows[at + 2];
        int c = rows[at + 3];
        int d = rows[at + 4];
        int e = rows[at + 5];
        switch (rows[at]) {
            case TELL_FIND: find(a, b, c); break;
            case TELL_OBJECT: object(a, b, c, d, e); break;
            case TELL_PLACE: place(a, b); break;
            case TELL_ROOM: room(a); break;
            case TELL_LAMP: lamp(a, b); break;
            case TELL_SPARE: spare(a, b); break;
            case TELL_WORKSHOP: workshop(a); break;
            case TELL_HOUR: hour(a, b); break;
            case TELL_PASS: pass(a); break;
            case TELL_CARRY: carry(a, b, c, d); break;
            case TELL_PACK: pack(a, b); break;
            case TELL_LOSE: lose(a); break;
            case TELL_LEND: lend(a, b, c, d); break;
            case TELL_TREAT: treat(a, b, c, d); break;
            case TELL_ORIGIN: origin(a, b); break;
            case TELL_LOOK: look(a, b, c, d); break;
            default: break;
        }
    }

    private void retellLayers(int at) {
        int a = rows[at + 1];
        int b = rows[at + 2];
        int c = rows[at + 3];
        switch (rows[at]) {
            case TELL_LAYER_RELATE: layerRelate(a, b, c); break;
            case TELL_LAYER_UNDO: layerUndo(a); break;
            case TELL_LAYER_GROUP: layerGroup(); break;
            case TELL_LAYER_INTO: layerInto(a, b); break;
            case TELL_LAYER_VERSION: layerVersion(); break;
            default: break;
        }
    }

    private void retellCurves(int at) {
        int a = rows[at + 1];
        int b = rows[at + 2];
        int c = rows[at + 3];
        int d = rows[at + 4];
        switch (rows[at]) {
            case TELL_CURVE_ROW: curveRow(a, b, c); break;
            case TELL_CURVE_EDITION: curveEdition(); break;
            case TELL_CURVE_USE: curveUse(a); break;
            case TELL_CURVE_RESERVOIR: curveReservoir(a, b); break;
            case TELL_CURVE_DATE: curveDate(a, b); break;
            case TELL_CURVE_SUM: curveSum(a, b); break;
            case TELL_CURVE_MIX: curveMix(a, b, c, d); break;
            case TELL_CURVE_JOIN_REPEATS: curveJoinRepeats(a, b); break;
            case TELL_CURVE_LEAST: curveLeast(a, b, c); break;
            case TELL_CURVE_GAP: curveGap(a, b); break;
            case TELL_CURVE_CLEAR: curveClear(); break;
            case TELL_CURVE_UNIT: curveUnit(a, b); break;
            case TELL_CURVE_READ: curveRead(); break;
            default: break;
        }
    }

    private void retellOwners(int at) {
        int a = rows[at + 1];
        int b = rows[at + 2];
        int c = rows[at + 3];
        int d = rows[at + 4];
        int e = rows[at + 5];
        switch (rows[at]) {
            case TELL_OWNER_ROW: ownerRow(a, b, c, d, e); break;
            case TELL_OWNER_SHARE: ownerShare(a, b, c); break;
            case TELL_OWNER_DOUBT: ownerDoubt(a, b != 0); break;
            case TELL_OWNER_CORRECT: ownerCorrect(a, b, c, d); break;
            case TELL_OWNER_DANGER: ownerDanger(a, b, c); break;
            case TELL_OWNER_CLAIM: ownerClaim(a, b, c); break;
            case TELL_OWNER_SETTLE: ownerSettle(a, b); break;
            case TELL_OWNER_TELL: ownerTell(a, b, c); break;
            case TELL_OWNER_LICENCE: ownerLicence(a, b, c, d); break;
            case TELL_OWNER_SEAL: ownerSeal(a, b, c != 0); break;
            case TELL_OWNER_WORTH: ownerWorth(a, b, c, d); break;
            default: break;
        }
    }

    private void retellPlaces(int at) {
        int a = rows[at + 1];
        int b = rows[at + 2];
        int c = rows[at + 3];
        int d = rows[at + 4];
        switch (rows[at]) {
            case TELL_PLACE_KEYS: placeKeys(a, b); break;
            case TELL_PLACE_KEY: placeKey(a, b != 0); break;
            case TELL_PLACE_BOX: placeBox(a); break;
            case TELL_PLACE_DOOR: placeDoor(a, b, c, d); break;
            case TELL_PLACE_PLANNED: placePlanned(a, b, c, d); break;
            case TELL_PLACE_QUIET: placeQuiet(a, b, c); break;
            default: break;
        }
    }

    private void retellTerms(int at) {
        int a = rows[at + 1];
        int b = rows[at + 2];
        int c = rows[at + 3];
        switch (rows[at]) {
            case TELL_TERM_UNIT: termUnit(a); break;
            case TELL_TERM_READ: termRead(); break;
            case TELL_TERM_FAILS: termFails(a, b, c); break;
            case TELL_TERM_SHIELD: termShield(a, b != 0); break;
            case TELL_TERM_EXTEND: termExtend(a, b, c); break;
            case TELL_TERM_REQUEST: termRequest(a, b, c); break;
            default: break;
        }
    }

    private void retellRooms(int at) {
        int a = rows[at + 1];
        int b = rows[at + 2];
        int c = rows[at + 3];
        int d = rows[at + 4];
        int e = rows[at + 5];
        switch (rows[at]) {
            case TELL_ROOM_SIZE: roomSize(a, b, c); break;
            case TELL_ROOM_WALL: roomWall(a, b, c); break;
            case TELL_ROOM_GOODS: roomGoods(a, b); break;
            case TELL_ROOM_ROW: roomRow(a, b, c); break;
            case TELL_ROOM_MACHINE: roomMachine(a, b, c, d, e); break;
            case TELL_ROOM_RISK: roomRisk(a, b, c, d); break;
            case TELL_ROOM_RULE: roomRule(a, b, c, d); break;
            case TELL_ROOM_SENSOR: roomSensor(a, b, c); break;
            case TELL_ROOM_CHECK: roomCheck(a, b, c); break;
            default: break;
        }
    }

    private void retellMethods(int at) {
        int a = rows[at + 1];
        int b = rows[at + 2];
        int c = rows[at + 3];
        switch (rows[at]) {
            case TELL_METHOD_UNIT: methodUnit(a); break;
            case TELL_METHOD_READ: methodRead(); break;
            case TELL_METHOD_PART: methodPart(a, b); break;
            case TELL_METHOD_RIGHT: methodRight(a, b, c != 0); break;
            case TELL_METHOD_TRIAL: methodTrial(a, b, c != 0); break;
            case TELL_METHOD_STOCK: methodStock(a, b); break;
            case TELL_METHOD_APART: methodApart(a, b); break;
            case TELL_METHOD_PUT: methodPut(a, b); break;
            case TELL_METHOD_PLAN: methodPlan(a, b); break;
            default: break;
        }
    }

    private void retellClaims(int at) {
        int a = rows[at + 1];
        int b = rows[at + 2];
        int c = rows[at + 3];
        int d = rows[at + 4];
        int e = rows[at + 5];
        switch (rows[at]) {
            case TELL_CLAIM_UNIT: claimUnit(a); break;
            case TELL_CLAIM_CLEAR: claimClear(); break;
            case TELL_CLAIM_SOURCE: claimSource(a, b); break;
            case TELL_CLAIM_NEW: claimNew(); break;
            case TELL_CLAIM_RESTS: claimRests(a, b, c != 0); break;
            case TELL_CLAIM_RESTS_ON: claimRestsOn(a, b); break;
            case TELL_CLAIM_LIFT: claimLift(a, b); break;
            case TELL_CLAIM_WITHDRAW: claimWithdraw(a, b); break;
            case TELL_CLAIM_OPINION: claimOpinion(a, b, c, d, e); break;
            case TELL_CLAIM_RULE: claimRule(a, b); break;
            case TELL_CLAIM_FORM: claimForm(a); break;
            default: break;
        }
    }

    private void retellRights(int at) {
        int a = rows[at + 1];
        int b = rows[at + 2];
        int c = rows[at + 3];
        int d = rows[at + 4];
        switch (rows[at]) {
            case TELL_RIGHT_UNIT: rightUnit(a, b, c, d); break;
            case TELL_RIGHT_RULE: rightRule(); break;
            case TELL_RIGHT_DROP: rightDrop(a); break;
            case TELL_RIGHT_PERSON: rightPerson(a); break;
            case TELL_RIGHT_EMBARGO: rightEmbargo(a, b); break;
            case TELL_RIGHT_AGREEMENT: rightAgreement(a, b, c, d); break;
            case TELL_RIGHT_EXPORT: rightExport(a, b); break;
            case TELL_RIGHT_REQUEST: rightRequest(a, b, c); break;
            case TELL_RIGHT_LIMIT: rightLimit(a, b); break;
            default: break;
        }
    }

    private void retellTickets(int at) {
        int a = rows[at + 1];
        int b = rows[at + 2];
        int c = rows[at + 3];
        int d = rows[at + 4];
        int e = rows[at + 5];
        switch (rows[at]) {
            case TELL_TICKET_SLOT: ticketSlot(a); break;
            case TELL_TICKET_OVER: ticketOver(a, b, c, d, e); break;
            case TELL_TICKET_SELL: ticketSell(a, b, c); break;
            case TELL_TICKET_BACK: ticketBack(a); break;
            case TELL_TICKET_WAITS: ticketWaits(a, b, c); break;
            case TELL_TICKET_UNIT: ticketUnit(a); break;
            case TELL_TICKET_RULES: ticketRules(); break;
            case TELL_TICKET_READ: ticketRead(a, b, c); break;
            case TELL_TICKET_JOIN: ticketJoin(); break;
            case TELL_TICKET_LEAVES: ticketLeaves(a, b); break;
            default: break;
        }
    }

    // ------------------------------------------------------------------
    // What goes between the parts
    // ------------------------------------------------------------------

    /** The house as it is when nothing is told; what is on the disk stays. */
    private void begin() {
        layers = new Layers();
        sheet = new Sheet();
        curves = new Curves();
        ways = new Ways();
        owners = new Owners();
        places = new Places();
        terms = new Terms();
        rooms = new ArrayList<Room>();
        methods = new Methods();
        claims = new Claims();
        rights = new Rights();
        tickets = new Tickets();
        findCount = 0;
        now = 0;
        hoursRun = 0;
        workshop = NONE;
        told = 0;
    }

    private void mayAsk() {
        requireState(!isCut);
    }

    private void mayTell() {
        requireState(!isCut && told < ROWS);
    }

    /** Keeps a row; it is called when the call has been answered, so that no refused one is kept. */
    private void keep(int call, int a, int b, int c, int d, int e) {
        int at = told * ROW;
        rows[at] = call;
        rows[at + 1] = a;
        rows[at + 2] = b;
        rows[at + 3] = c;
        rows[at + 4] = d;
        rows[at + 5] = e;
        told++;
    }

    private int kept(int answer, int call, int a, int b, int c, int d, int e) {
        keep(call, a, b, c, d, e);
        return answer;
    }

    private boolean kept(boolean answer, int call, int a, int b, int c, int d, int e) {
        keep(call, a, b, c, d, e);
        return answer;
    }

    private int day() {
        return now / DAY;
    }

    private int addFind(int context, int kind, int community) {
        int at = findCount * FIND;
        finds[at] = context;
        finds[at + 1] = kind;
        finds[at + 2] = community;
        findCount++;
        return findCount - 1;
    }

    private boolean isObjectOf(int find) {
        for (int object = 0; object < places.objects; object++) {
            if (things[object * THING + FOUND] == find) {
                return true;
            }
        }
        return false;
    }

    private int makeObject(int find, int w, int h, int d, int grams) {
        int object = places.addObject(w, h, d, grams);
        int at = object * THING;
        things[at + FOUND] = find;
        things[at + CLAIM] = NONE;
        things[at + SPARE] = NONE;
        things[at + LIGHT] = 0;
        things[at + WAS_IN_ROOM] = 0;
        things[at + WARM] = NEVER_WARM;
        owners.addThing();
        methods.addObject();
        rights.addRecord(finds[find * FIND + 1], finds[find * FIND + 2]);
        return object;
    }

    private int addRoom(int place) {
        for (int r = 0; r < rooms.size(); r++) {
            if (rooms.get(r).place == place) {
                return NONE;
            }
        }
        rooms.add(new Room(place));
        return rooms.size() - 1;
    }

    /** The climate of a room that there must be. */
    private Room climate(int room) {
        requireElement(in(room, 0, rooms.size() - 1));
        return rooms.get(room);
    }

    /** The room in which a place is: the innermost of those places that are rooms and it is in; NONE. */
    private int roomOf(int place) {
        int here = place;
        for (int step = 0; step < Places.PLACES && here != NONE; step++) {
            for (int r = 0; r < rooms.size(); r++) {
                if (rooms.get(r).place == here) {
                    return r;
                }
            }
            here = places.outerOf(here);
        }
        return NONE;
    }

    private void runRooms(int degrees, int damp) {
        int count = rooms.size();
        int guests = tickets.insideAt(SECONDS * (now % DAY));
        for (int r = 0; r < count; r++) {
            int visitors = guests / count + (r < guests % count ? 1 : 0);
            Room room = rooms.get(r);
            room.run(degrees, damp, Math.min(VISITORS, visitors));
            terms.feed(2 * r, now, room.degrees() + DEGREES);
            terms.feed(2 * r + 1, now, room.damp());
        }
    }

    private void lightObjects() {
        for (int object = 0; object < places.objects; object++) {
            int at = object * THING;
            int r = roomOf(places.where(object, now));
            if (r != NONE) {
                Room room = rooms.get(r);
                int degrees = room.degrees();
                things[at + LIGHT] += room.lamp;
                if (things[at + WAS_IN_ROOM] == 0 || degrees > things[at + WARM]) {
                    things[at + WARM] = degrees;
                }
                things[at + WAS_IN_ROOM] = 1;
            }
        }
    }

    /** Why an object must not be carried to a place, whatever the place and the persons; 0 if it may. */
    private int reasonToStay(int object, int place) {
        if (owners.stops(object, day())) {
            return STOPPED_MOVE;
        }
        if (terms.hasAnswered(object, 1)) {
            return BROKEN_LOAN;
        }
        int r = roomOf(place);
        int spared = things[object * THING + SPARE];
        if (r != NONE && rooms.get(r).lamp > 0 && spared != NONE && things[object * THING + LIGHT] >= spared) {
            return TOO_MUCH_LIGHT;
        }
        return 0;
    }

    /** Why an object must not be treated, whatever the method and the persons; 0 if it may. */
    private int reasonToWait(int object) {
        if (workshop != NONE && !places.lies(places.where(object, now), workshop)) {
            return NOT_IN_WORKSHOP;
        }
        if (owners.stops(object, day())) {
            return STOPPED_TREATMENT;
        }
        return terms.hasAnswered(object, 0) ? OUT_ON_LOAN : 0;
    }

    private int contextOf(int object) {
        int claim = things[object * THING + CLAIM];
        int agreed = claim == NONE ? NONE : claims.agreed(claim, day());
        return layers.isContext(agreed) ? agreed : finds[things[object * THING + FOUND] * FIND];
    }

    /** The value that a field of an object's record has now. */
    private int valueOf(int object, int field) {
        switch (field) {
            case 0: return places.where(object, now);
            case 1: return things[object * THING + LIGHT];
            case 2: return owners.value(object, day(), 0);
            case 3: return things[object * THING + WARM];
            case 4: return contextOf(object);
            default: return methods.stepsDone(object);
        }
    }

    // ------------------------------------------------------------------
    // What several parts use: checks, sets of numbers, rings, texts, great numbers
    // ------------------------------------------------------------------

    private static void requireIndex(boolean holds) {
        if (!holds) {
            throw new IndexOutOfBoundsException("no such number");
        }
    }

    private static void requireElement(boolean holds) {
        if (!holds) {
            throw new NoSuchElementException("none such");
        }
    }

    private static void requireArgument(boolean holds) {
        if (!holds) {
            throw new IllegalArgumentException("not within its bounds");
        }
    }

    private static void requireState(boolean holds) {
        if (!holds) {
            throw new IllegalStateException("not as things stand");
        }
    }

    private static boolean in(int v, int least, int most) {
        return v >= least && v <= most;
    }

    private static boolean isDay(int v) {
        return v >= 0 && v <= LAST_DAY;
    }

    private static boolean has(int set, int i) {
        return (set >> i & 1) != 0;
    }

    private static int with(int set, int i, boolean on) {
        return on ? set | 1 << i : set & ~(1 << i);
    }

    /** The k-th number of a set, from the least on; NONE if it has not so many. */
    private static int nth(int set, int k) {
        int left = k;
        for (int i = 0; i < 32; i++) {
            if ((set >> i & 1) != 0) {
                if (left == 0) {
                    return i;
                }
                left--;
            }
        }
        return NONE;
    }

    /** How many steps a number is from another one, each step going to one of its set in next; NONE if there is no way. */
    private static int steps(int[] next, int from, int to) {
        int seen = 1 << from;
        for (int count = 0; count <= next.length; count++) {
            if ((seen >> to & 1) != 0) {
                return count;
            }
            int more = seen;
            for (int i = 0; i < next.length; i++) {
                if ((seen >> i & 1) != 0) {
                    more |= next[i];
                }
            }
            seen = more;
        }
        return NONE;
    }

    /** The lowest of those next to a number that are so many steps from the goal; NONE if there is none. */
    private static int stepTowards(int[] next, int here, int goal, int left) {
        for (int i = 0; i < next.length; i++) {
            if ((next[here] >> i & 1) != 0 && steps(next, i, goal) == left) {
                return i;
            }
        }
        return NONE;
    }

    /**
     * Writes the shortest ring through a number into out, from that number on; of equal ones the one with
     * the lower number where they differ first. Answers its length; 0 if there is none: then out stays.
     */
    private static int findRing(int[] next, int start, int[] out) {
        int first = NONE;
        int least = next.length + 1;
        for (int i = 0; i < next.length; i++) {
            int count = (next[start] >> i & 1) != 0 ? steps(next, i, start) : NONE;
            if (count != NONE && count < least) {
                first = i;
                least = count;
            }
        }
        if (first == NONE) {
            return 0;
        }
        out[0] = start;
        int here = first;
        for (int k = 1; k <= least && here != NONE; k++) {
            out[k] = here;
            here = stepTowards(next, here, start, least - k);
        }
        return least + 1;
    }

    /*
     * Texts are read by places: a function gets the place from which on it reads and answers the one behind,
     * or -1 less the first wrong place; a place below 0 is such an answer, and is handed on.
     */

    /** The place behind a sign that has to stand at a place. */
    private static int behind(StringBuilder text, int at, char sign) {
        if (at < 0) {
            return at;
        }
        return at < text.length() && text.charAt(at) == sign ? at + 1 : -1 - at;
    }

    /**
     * The place behind a number of at most so many digits, from least to most; a plain one has no 0 ahead.
     * A digit is wrong as soon as no number within the bounds could go on behind it.
     */
    private static int behindNumber(StringBuilder text, int at, int digits, int least, int most, boolean plain) {
        if (at < 0) {
            return at;
        }
        int value = 0;
        int end = at;
        for (; end < text.length() && end - at < digits; end++) {
            char sign = text.charAt(end);
            if (sign < '0' || sign > '9') {
                break;
            }
            if (plain && end > at && value == 0) {
                return -1 - end;
            }
            value = value * 10 + sign - '0';
            boolean isWhole = end - at == digits - 1 || plain && value == 0;
            if (value > most || value < least && isWhole) {
                return -1 - end;
            }
        }
        return end > at && value >= least ? end : -1 - end;
    }

    /** The number whose digits stand from a place to another one (not with it). */
    private static int numberAt(StringBuilder text, int from, int to) {
        int value = 0;
        for (int i = from; i < to && i < text.length(); i++) {
            value = value * 10 + text.charAt(i) - '0';
        }
        return value;
    }

    /*
     * Great numbers, 0 and above: LIMBS limbs of nine decimal digits each, the lowest first, in an array
     * from a place on. No sum that the document allows has more than 48 digits.
     */

    private static void setGreat(long[] x, int at, long value) {
        for (int i = 1; i < LIMBS; i++) {
            x[at + i] = 0;
        }
        x[at] = value % LIMB;
        x[at + 1] = value / LIMB;
    }

    /** Adds so many times another number. */
    private static void addGreat(long[] x, int at, long[] y, int from, long times) {
        long carry = 0;
        for (int i = 0; i < LIMBS; i++) {
            long limb = x[at + i] + y[from + i] * times + carry;
            x[at + i] = limb % LIMB;
            carry = limb / LIMB;
        }
    }

    private static void multiplyGreat(long[] x, int at, long times) {
        long carry = 0;
        for (int i = 0; i < LIMBS; i++) {
            long limb = x[at + i] * times + carry;
            x[at + i] = limb % LIMB;
            carry = limb / LIMB;
        }
    }

    /** Multiplies a number by another one; from the highest limb down, since each needs the lower ones as they were. */
    private static void multiplyGreats(long[] x, int at, long[] y, int from) {
        for (int c = LIMBS - 1; c >= 0; c--) {
            long column = 0;
            for (int i = 0; i <= c; i++) {
                column += x[at + i] * y[from + c - i];
            }
            x[at + c] = column;
        }
        long carry = 0;
        for (int i = 0; i < LIMBS; i++) {
            long limb = x[at + i] + carry;
            x[at + i] = limb % LIMB;
            carry = limb / LIMB;
        }
    }

    private static int compareGreats(long[] x, int at, long[] y, int from) {
        for (int i = LIMBS - 1; i >= 0; i--) {
            if (x[at + i] != y[from + i]) {
                return x[at + i] < y[from + i] ? -1 : 1;
            }
        }
        return 0;
    }

    private static boolean isNoGreat(long[] x, int at) {
        for (int i = 0; i < LIMBS; i++) {
            if (x[at + i] != 0) {
                return false;
            }
        }
        return true;
    }

    /** A decimal digit, 0 the units. */
    private static int digitOfGreat(long[] x, int at, int digit) {
        long limb = x[at + digit / LIMB_DIGITS];
        for (int i = digit % LIMB_DIGITS; i > 0; i--) {
            limb /= 10;
        }
        return (int) (limb % 10);
    }

    // ------------------------------------------------------------------
    // Layers
    // ------------------------------------------------------------------

    /** The contexts, what was told of which lies above which, and the order that follows. */
    private static final class Layers {
        private static final int RELATIONS = 200;
        private static final int GROUPS = 12;
        private static final int VERSIONS = 8;
        private static final int EQUAL = 3;
        private static final int CONTEMPORARY = 4;
        private static final int UNDONE = -1;
        private static final int PHASES = 6;

        private int contexts;
        private final int[] phases = new int[CONTEXTS];
        private int hidden;
        private int relations;
        private final int[] upper = new int[RELATIONS];
        private final int[] lower = new int[RELATIONS];
        private final int[] kinds = new int[RELATIONS];
        /** Of each context the number of its joined one. */
        private final int[] number = new int[CONTEXTS];
        /** Of each joined one those that are right below it, as told, and those that it is over. */
        private final int[] below = new int[CONTEXTS];
        private final int[] under = new int[CONTEXTS];
        private final int[] ring = new int[CONTEXTS];
        private int ringLength;
        private int groups;
        private final int[] groupOf = new int[CONTEXTS];
        private final int[] groupsUnder = new int[GROUPS];
        private final int[] groupRing = new int[GROUPS];
        private int groupRingLength;
        private int versions;
        private final int[] versionNumbers = new int[VERSIONS * CONTEXTS];
        private final int[] versionUnders = new int[VERSIONS * CONTEXTS];

        Layers() {
            Arrays.fill(phases, NONE);
            Arrays.fill(groupOf, NONE);
            for (int c = 0; c < CONTEXTS; c++) {
                number[c] = c;
            }
        }

        boolean isContext(int c) {
            return c >= 0 && c < contexts;
        }

        int add() {
            requireState(contexts < CONTEXTS);
            contexts++;
            return contexts - 1;
        }

        int setPhase(int context, int p) {
            requireIndex(isContext(context));
            requireArgument(in(p, NONE, PHASES - 1));
            int was = phases[context];
            phases[context] = p;
            return was;
        }

        boolean setHidden(int context, boolean on) {
            requireIndex(isContext(context));
            boolean was = has(hidden, context);
            hidden = with(hidden, context, on);
            return was != on;
        }

        /** The least phase of those that are joined under a number; NONE if none has one. */
        int phaseOf(int joined) {
            int least = NONE;
            for (int c = 0; c < contexts; c++) {
                if (number[c] == joined && phases[c] != NONE && (least == NONE || phases[c] < least)) {
                    least = phases[c];
                }
            }
            return least;
        }

        /** Whether all that are joined under a number are hidden. */
        boolean isHidden(int joined) {
            for (int c = 0; c < contexts; c++) {
                if (number[c] == joined && !has(hidden, c)) {
                    return false;
                }
            }
            return true;
        }

        int relate(int a, int b, int kind) {
            requireIndex(isContext(a) && isContext(b) && in(kind, 0, CONTEMPORARY));
            requireState(relations < RELATIONS);
            int top = number[a];
            int low = number[b];
            boolean isRing = false;
            if (kind < EQUAL) {
                isRing = makesRing(top, low, top);
            } else if (kind == EQUAL && isOver(top, low)) {
                isRing = makesRing(low, top, top);
            } else if (kind == EQUAL && isOver(low, top)) {
                isRing = makesRing(top, low, low);
            }
            if (isRing) {
                return NONE;
            }
            upper[relations] = a;
            lower[relations] = b;
            kinds[relations] = kind;
            relations++;
            reckon();
            return relations - 1;
        }

        /** Whether there would be a ring, if one joined one were right above another one; it is told then, from start on. */
        private boolean makesRing(int top, int low, int start) {
            int told = below[top];
            below[top] = told | 1 << low;
            int length = findRing(below, start, ring);
            below[top] = told;
            if (length > 0) {
                ringLength = length;
            }
            return length > 0;
        }

        int ringPlace(int k) {
            requireIndex(k >= 0);
            return k < ringLength ? ring[k] : NONE;
        }

        boolean undo(int relation) {
            requireIndex(in(relation, 0, relations - 1));
            boolean counted = kinds[relation] != UNDONE;
            kinds[relation] = UNDONE;
            reckon();
            return counted;
        }

        /** Finds the joined ones and their order anew from the relations that count. */
        private void reckon() {
            for (int c = 0; c < CONTEXTS; c++) {
                number[c] = c;
                below[c] = 0;
            }
            for (int r = 0; r < relations; r++) {
                if (kinds[r] == EQUAL) {
                    join(number[upper[r]], number[lower[r]]);
                }
            }
            for (int r = 0; r < relations; r++) {
                if (kinds[r] >= 0 && kinds[r] < EQUAL) {
                    below[number[upper[r]]] |= 1 << number[lower[r]];
                }
            }
            System.arraycopy(below, 0, under, 0, CONTEXTS);
            for (int k = 0; k < CONTEXTS; k++) {
                for (int c = 0; c < CONTEXTS; c++) {
                    if (has(under[c], k)) {
                        under[c] |= under[k];
                    }
                }
            }
        }

        private void join(int one, int other) {
            int least = Math.min(one, other);
            int greatest = Math.max(one, other);
            for (int c = 0; c < CONTEXTS; c++) {
                if (number[c] == greatest) {
                    number[c] = least;
                }
            }
        }

        /** Whether a joined one is over another one, by their numbers. */
        boolean isOver(int top, int low) {
            return (under[top] >> low & 1) != 0;
        }

        int order(int a, int b) {
            requireIndex(isContext(a) && isContext(b));
            if (isOver(number[a], number[b])) {
                return 1;
            }
            return isOver(number[b], number[a]) ? -1 : 0;
        }

        /** Those to which a link goes from a joined one: under it, and under none that is under it. */
        int linksFrom(int joined) {
            int between = 0;
            for (int c = 0; c < CONTEXTS; c++) {
                if (has(under[joined], c)) {
                    between |= under[c];
                }
            }
            return under[joined] & ~between;
        }

        int links() {
            int count = 0;
            for (int c = 0; c < CONTEXTS; c++) {
                count += Integer.bitCount(linksFrom(c));
            }
            return count;
        }

        int link(int k, int which) {
            requireIndex(k >= 0 && k < links() && in(which, 0, 1));
            int left = k;
            for (int c = 0; c < CONTEXTS; c++) {
                int count = Integer.bitCount(linksFrom(c));
                if (left < count) {
                    return which == 0 ? c : nth(linksFrom(c), left);
                }
                left -= count;
            }
            return NONE;
        }

        int equal(int context) {
            requireIndex(isContext(context));
            return number[context];
        }

        boolean areContemporary(int a, int b) {
            requireIndex(isContext(a) && isContext(b));
            int one = number[a];
            int other = number[b];
            if (one == other) {
                return true;
            }
            for (int r = 0; r < relations; r++) {
                int top = number[upper[r]];
                int low = number[lower[r]];
                if (kinds[r] == CONTEMPORARY && (top == one && low == other || top == other && low == one)) {
                    return true;
                }
            }
            return false;
        }

        /** Takes off all that is above the context, one layer of tops behind the other: as many as the longest way has. */
        int longest(int context) {
            requireIndex(isContext(context));
            int left = 0;
            for (int c = 0; c < CONTEXTS; c++) {
                left = with(left, c, isOver(c, number[context]));
            }
            int count = 0;
            for (; count < CONTEXTS && left != 0; count++) {
                int covered = 0;
                for (int c = 0; c < CONTEXTS; c++) {
                    if (has(left, c)) {
                        covered |= under[c];
                    }
                }
                left &= covered;
            }
            return count;
        }

        int addGroup() {
            requireState(groups < GROUPS);
            groups++;
            return groups - 1;
        }

        boolean into(int group, int context) {
            requireIndex(in(group, 0, groups - 1) && isContext(context));
            int was = groupOf[context];
            groupOf[context] = group;
            orderGroups();
            int length = findRing(groupsUnder, group, groupRing);
            if (length > 0) {
                groupRingLength = length;
                groupOf[context] = was;
            }
            return length == 0;
        }

        private void orderGroups() {
            Arrays.fill(groupsUnder, 0);
            for (int a = 0; a < contexts; a++) {
                for (int b = 0; b < contexts; b++) {
                    int top = groupOf[a];
                    int low = groupOf[b];
                    if (top != NONE && low != NONE && top != low && isOver(number[a], number[b])) {
                        groupsUnder[top] |= 1 << low;
                    }
                }
            }
        }

        int groupRingPlace(int k) {
            requireIndex(k >= 0);
            return k < groupRingLength ? groupRing[k] : NONE;
        }

        int groupOf(int context) {
            requireIndex(isContext(context));
            return groupOf[context];
        }

        int addVersion() {
            requireState(versions < VERSIONS);
            for (int c = 0; c < CONTEXTS; c++) {
                versionNumbers[versions * CONTEXTS + c] = c < contexts ? number[c] : NONE;
                versionUnders[versions * CONTEXTS + c] = c < contexts ? contextsUnder(c) : 0;
            }
            versions++;
            return versions - 1;
        }

        private int contextsUnder(int context) {
            int set = 0;
            for (int c = 0; c < contexts; c++) {
                set = with(set, c, isOver(number[context], number[c]));
            }
            return set;
        }

        int differs(int one, int other, int k) {
            requireIndex(in(one, 0, versions - 1) && in(other, 0, versions - 1) && k >= 0);
            int set = 0;
            for (int c = 0; c < CONTEXTS; c++) {
                int a = one * CONTEXTS + c;
                int b = other * CONTEXTS + c;
                boolean same = versionNumbers[a] == versionNumbers[b] && versionUnders[a] == versionUnders[b]
                        && versionOver(one, c) == versionOver(other, c);
                set = with(set, c, !same);
            }
            return nth(set, k);
        }

        private int versionOver(int version, int context) {
            int set = 0;
            for (int c = 0; c < CONTEXTS; c++) {
                set = with(set, c, has(versionUnders[version * CONTEXTS + c], context));
            }
            return set;
        }

        int count(int what) {
            requireIndex(in(what, 0, 4));
            int joined = 0;
            int pairs = 0;
            for (int c = 0; c < contexts; c++) {
                joined += number[c] == c ? 1 : 0;
                pairs += Integer.bitCount(under[c]);
            }
            switch (what) {
                case 0: return contexts;
                case 1: return countRelations();
                case 2: return joined;
                case 3: return pairs;
                default: return groups;
            }
        }

        private int countRelations() {
            int count = 0;
            for (int r = 0; r < relations; r++) {
                count += kinds[r] != UNDONE ? 1 : 0;
            }
            return count;
        }
    }

    // ------------------------------------------------------------------
    // Sheet
    // ------------------------------------------------------------------

    /** The sheet that was drawn latest. Its nodes are the groups, by their numbers, and behind them the bends. */
    private static final class Sheet {
        private static final int DRAWS = 40;
        private static final int ROUNDS = 12;
        private static final int BENDS = 150;
        private static final int PAIRS = CONTEXTS * (CONTEXTS - 1) / 2;
        private static final int NODES = CONTEXTS + BENDS;
        private static final int MISFIT = -2;
        private static final int TOO_MANY_BENDS = -3;
        private static final int GRID = 16;

        private int draws;
        private boolean drawn;
        private int there;
        private int above;
        private final int[] group = new int[CONTEXTS];
        /** Pairs of groups, the upper one times CONTEXTS and the lower one. */
        private final int[] misfits = new int[PAIRS];
        private final int[] links = new int[PAIRS];
        private int linkCount;
        private final int[] firstBend = new int[PAIRS];
        private int bends;
        private int rows;
        /** Of each node its row, its place in the order just tried, and that of the best one; NONE as row: not drawn. */
        private final int[] row = new int[NODES];
        private final int[] place = new int[NODES];
        private final int[] best = new int[NODES];
        /** All nodes, row by row and place by place, and where each row starts. */
        private final int[] order = new int[NODES];
        private final int[] start = new int[CONTEXTS + 1];
        private final int[] crossings = new int[ROUNDS + 1];
        /** Pairs of nodes, the upper one times NODES and the lower one. */
        private final int[] pieces = new int[PAIRS + BENDS];
        private int pieceCount;
        private final int[] keySum = new int[NODES];
        private final int[] keyCount = new int[NODES];

        int drawFrom(Layers layers, int rounds) {
            requireArgument(in(rounds, 0, ROUNDS));
            requireState(draws < DRAWS);
            draws++;
            begin(layers);
            if (findMisfits(layers)) {
                return MISFIT;
            }
            findLinks(layers);
            findRows(layers);
            if (!bend()) {
                bends = 0;
                return TOO_MANY_BENDS;
            }
            findOrder();
            findPieces();
            drawn = true;
            return tryRounds(rounds);
        }

        private void begin(Layers layers) {
            drawn = false;
            there = layers.contexts;
            above = layers.links();
            linkCount = 0;
            bends = 0;
            rows = 0;
            pieceCount = 0;
            Arrays.fill(misfits, NONE);
            Arrays.fill(crossings, NONE);
            Arrays.fill(row, NONE);
            for (int c = 0; c < CONTEXTS; c++) {
                group[c] = c < there ? layers.number[c] : c;
                if (c < there && group[c] == c && !layers.isHidden(c)) {
                    row[c] = 0;
                }
            }
        }

        private boolean findMisfits(Layers layers) {
            int count = 0;
            for (int a = 0; a < CONTEXTS; a++) {
                for (int b = 0; b < CONTEXTS; b++) {
                    int low = layers.isOver(a, b) ? layers.phaseOf(b) : NONE;
                    if (low != NONE && layers.phaseOf(a) > low) {
                        misfits[count] = a * CONTEXTS + b;
                        count++;
                    }
                }
            }
            return count > 0;
        }

        private void findLinks(Layers layers) {
            for (int a = 0; a < CONTEXTS; a++) {
                int reached = row[a] != NONE ? reachedFrom(layers, a) : 0;
                for (int b = 0; b < CONTEXTS; b++) {
                    if (has(reached, b) && row[b] != NONE) {
                        links[linkCount] = a * CONTEXTS + b;
                        linkCount++;
                    }
                }
            }
        }

        /** The groups below one, as told or over hidden ones alone. */
        private int reachedFrom(Layers layers, int a) {
            int reached = layers.linksFrom(a);
            for (int pass = 0; pass < CONTEXTS; pass++) {
                int more = reached;
                for (int b = 0; b < CONTEXTS; b++) {
                    if (has(reached, b) && row[b] == NONE) {
                        more |= layers.linksFrom(b);
                    }
                }
                if (more == reached) {
                    return reached;
                }
                reached = more;
            }
            return reached;
        }

        /** Rows grow till none is too low any more; no way down is longer than there are groups. */
        private void findRows(Layers layers) {
            boolean grows = true;
            for (int pass = 0; pass <= CONTEXTS && grows; pass++) {
                grows = false;
                for (int g = 0; g < CONTEXTS; g++) {
                    int least = row[g] != NONE ? leastRow(layers, g) : NONE;
                    if (row[g] < least) {
                        row[g] = least;
                        grows = true;
                    }
                }
            }
        }

        private int leastRow(Layers layers, int g) {
            int least = 0;
            for (int l = 0; l < linkCount; l++) {
                if (links[l] % CONTEXTS == g) {
                    least = Math.max(least, row[links[l] / CONTEXTS] + 1);
                }
            }
            int phase = layers.phaseOf(g);
            for (int other = 0; phase != NONE && other < CONTEXTS; other++) {
                int lower = row[other] != NONE ? layers.phaseOf(other) : NONE;
                if (lower != NONE && lower < phase) {
                    least = Math.max(least, row[other] + 1);
                }
            }
            return least;
        }

        private int bendsOf(int link) {
            return row[links[link] % CONTEXTS] - row[links[link] / CONTEXTS] - 1;
        }

        /** Gives each link its bends; no, if there are too many. */
        private boolean bend() {
            for (int l = 0; l < linkCount; l++) {
                firstBend[l] = CONTEXTS + bends;
                int top = row[links[l] / CONTEXTS];
                int count = bendsOf(l);
                if (bends + count > BENDS) {
                    return false;
                }
                for (int k = 0; k < count; k++) {
                    row[firstBend[l] + k] = top + 1 + k;
                }
                bends += count;
            }
            return true;
        }

        private void findOrder() {
            for (int g = 0; g < CONTEXTS; g++) {
                rows = Math.max(rows, row[g] + 1);
            }
            int at = 0;
            for (int r = 0; r < rows; r++) {
                start[r] = at;
                for (int node = 0; node < CONTEXTS + bends; node++) {
                    if (row[node] == r) {
                        order[at] = node;
                        place[node] = at - start[r];
                        at++;
                    }
                }
            }
            start[rows] = at;
        }

        /** The node of a link at a point: the upper group, its bends, the lower group. */
        private int nodeOf(int link, int point) {
            if (point == 0) {
                return links[link] / CONTEXTS;
            }
            return point > bendsOf(link) ? links[link] % CONTEXTS : firstBend[link] + point - 1;
        }

        private void findPieces() {
            for (int l = 0; l < linkCount; l++) {
                int count = bendsOf(l) + 1;
                for (int p = 0; p < count; p++) {
                    pieces[pieceCount] = nodeOf(l, p) * NODES + nodeOf(l, p + 1);
                    pieceCount++;
                }
            }
        }

        /** Keeps the first order with the fewest crossings, and answers these. */
        private int tryRounds(int rounds) {
            int fewest = NONE;
            for (int k = 0; k <= rounds; k++) {
                if (k > 0) {
                    goRound();
                }
                crossings[k] = countCrossings();
                if (fewest == NONE || crossings[k] < fewest) {
                    fewest = crossings[k];
                    System.arraycopy(place, 0, best, 0, NODES);
                }
            }
            for (int node = 0; node < CONTEXTS + bends; node++) {
                if (row[node] != NONE) {
                    order[start[row[node]] + best[node]] = node;
                }
            }
            return fewest;
        }

        private int countCrossings() {
            int count = 0;
            for (int i = 0; i < pieceCount; i++) {
                int top = pieces[i] / NODES;
                int low = pieces[i] % NODES;
                for (int j = i + 1; j < pieceCount; j++) {
                    int otherTop = pieces[j] / NODES;
                    if (row[otherTop] == row[top]
                            && (place[top] - place[otherTop]) * (place[low] - place[pieces[j] % NODES]) < 0) {
                        count++;
                    }
                }
            }
            return count;
        }

        private void goRound() {
            for (int r = 1; r < rows; r++) {
                sortRow(r, r - 1);
            }
            for (int r = rows - 2; r >= 0; r--) {
                sortRow(r, r + 1);
            }
        }

        /** Puts a row in order by the places of those in another one; of equal keys as they were. */
        private void sortRow(int r, int by) {
            findKeys(r, by);
            for (int i = start[r] + 1; i < start[r + 1]; i++) {
                int node = order[i];
                int j = i;
                for (; j > start[r] && isAhead(node, order[j - 1]); j--) {
                    order[j] = order[j - 1];
                }
                order[j] = node;
            }
            for (int i = start[r]; i < start[r + 1]; i++) {
                place[order[i]] = i - start[r];
            }
        }

        private boolean isAhead(int node, int other) {
            return keySum[node] * keyCount[other] < keySum[other] * keyCount[node];
        }

        private void findKeys(int r, int by) {
            for (int i = start[r]; i < start[r + 1]; i++) {
                keySum[order[i]] = 0;
                keyCount[order[i]] = 0;
            }
            for (int i = 0; i < pieceCount; i++) {
                int top = pieces[i] / NODES;
                int low = pieces[i] % NODES;
                if (row[top] == r && row[low] == by) {
                    keySum[top] += place[low];
                    keyCount[top]++;
                } else if (row[low] == r && row[top] == by) {
                    keySum[low] += place[top];
                    keyCount[low]++;
                }
            }
            for (int i = start[r]; i < start[r + 1]; i++) {
                if (keyCount[order[i]] == 0) {
                    keySum[order[i]] = place[order[i]];
                    keyCount[order[i]] = 1;
                }
            }
        }

        int groupOf(int context) {
            requireState(draws > 0);
            requireIndex(in(context, 0, CONTEXTS - 1));
            return group[context];
        }

        int misfit(int k, int which) {
            requireState(draws > 0);
            requireIndex(k >= 0 && in(which, 0, 1));
            if (k >= PAIRS || misfits[k] == NONE) {
                return NONE;
            }
            return which == 0 ? misfits[k] / CONTEXTS : misfits[k] % CONTEXTS;
        }

        int crossingsBehind(int k) {
            requireState(draws > 0);
            requireIndex(k >= 0);
            requireState(drawn);
            requireIndex(k <= ROUNDS && crossings[k] != NONE);
            return crossings[k];
        }

        int at(int context, int what) {
            requireState(draws > 0);
            requireIndex(in(context, 0, CONTEXTS - 1) && in(what, 0, 1));
            requireState(drawn);
            int g = group[context];
            if (row[g] == NONE) {
                return NONE;
            }
            return what == 0 ? row[g] : best[g];
        }

        int links() {
            requireState(draws > 0 && drawn);
            return linkCount;
        }

        int link(int k, int what) {
            requireState(draws > 0);
            requireIndex(k >= 0 && what >= 0);
            requireState(drawn);
            requireIndex(k < linkCount && what < 3 + bendsOf(k));
            switch (what) {
                case 0: return links[k] / CONTEXTS;
                case 1: return links[k] % CONTEXTS;
                case 2: return bendsOf(k);
                default: return best[firstBend[k] + what - 3];
            }
        }

        int command(int i) {
            requireState(draws > 0);
            requireIndex(i >= NONE);
            requireState(drawn);
            int count = 4 * drawnGroups();
            for (int l = 0; l < linkCount; l++) {
                int size = 2 + 2 * (bendsOf(l) + 2);
                if (i >= count && i < count + size) {
                    return linkCommand(l, i - count);
                }
                count += size;
            }
            requireIndex(i < count);
            return i == NONE ? count : groupCommand(i / 4, i % 4);
        }

        private int drawnGroups() {
            int count = 0;
            for (int g = 0; g < CONTEXTS; g++) {
                count += row[g] != NONE ? 1 : 0;
            }
            return count;
        }

        private int linkCommand(int link, int i) {
            if (i == 0) {
                return 2;
            }
            if (i == 1) {
                return bendsOf(link) + 2;
            }
            int node = nodeOf(link, (i - 2) / 2);
            return GRID * (i % 2 == 0 ? best[node] : row[node]);
        }

        private int groupCommand(int k, int i) {
            int left = k;
            for (int at = 0; at < start[rows]; at++) {
                int node = order[at];
                if (node < CONTEXTS && left == 0) {
                    switch (i) {
                        case 0: return 1;
                        case 1: return node;
                        case 2: return GRID * best[node];
                        default: return GRID * row[node];
                    }
                }
                left -= node < CONTEXTS ? 1 : 0;
            }
            return NONE;
        }

        int count(int what) {
            requireState(draws > 0);
            requireIndex(in(what, 0, 4));
            int groups = 0;
            for (int c = 0; c < there; c++) {
                groups += group[c] == c ? 1 : 0;
            }
            switch (what) {
                case 0: return there;
                case 1: return above;
                case 2: return groups;
                case 3: return rows;
                default: return bends;
            }
        }
    }

    // ------------------------------------------------------------------
    // Curves
    // ------------------------------------------------------------------

    /** Editions of a curve, the dates that were told by them, the latest least set, the row of dates. */
    private static final class Curves {
        private static final int UNIT = 999;
        private static final int EDITIONS = 4;
        private static final int DATES = 12;
        private static final int IN_ROW = 8;
        private static final int SIGNS = 100;
        private static final int AGE = 3000;
        private static final int SPREAD = 100;
        private static final int RESERVOIR = 1000;
        private static final int WEIGHT = 1000000;
        private static final int SHARES = 1000;
        private static final int GAP = 59;
        /** In place of a row's or a date's spread: there is no row, the date is not measured. */
        private static final int NO_SPREAD = 0;

        private int editions = 1;
        private int used;
        private final int[] ages = new int[EDITIONS * YEARS];
        private final int[] spreads = new int[EDITIONS * YEARS];
        private int reservoirAge;
        private int reservoirSpread;
        private int dates;
        private final int[] dateAges = new int[DATES];
        private final int[] dateSpreads = new int[DATES];
        private final int[] weights = new int[DATES * YEARS];
        private int leastSet;
        private int inRow;
        private final int[] rowDates = new int[IN_ROW];
        private final int[] rowGaps = new int[IN_ROW];
        private final StringBuilder pad = new StringBuilder();

        boolean isDate(int date) {
            return date >= 0 && date < dates;
        }

        boolean tellRow(int year, int age, int spread) {
            requireIndex(in(year, 0, YEARS - 1));
            requireArgument(in(age, 0, AGE) && in(spread, 1, SPREAD));
            return putRow(year, age, spread);
        }

        private boolean putRow(int year, int age, int spread) {
            int at = used * YEARS + year;
            boolean was = spreads[at] != NO_SPREAD;
            ages[at] = age;
            spreads[at] = spread;
            return was;
        }

        int addEdition() {
            requireState(editions < EDITIONS);
            System.arraycopy(ages, used * YEARS, ages, editions * YEARS, YEARS);
            System.arraycopy(spreads, used * YEARS, spreads, editions * YEARS, YEARS);
            used = editions;
            editions++;
            return used;
        }

        int use(int edition) {
            requireIndex(in(edition, 0, editions - 1));
            int was = used;
            used = edition;
            return was;
        }

        void setReservoir(int age, int spread) {
            requireArgument(in(age, -RESERVOIR, RESERVOIR) && in(spread, 0, SPREAD));
            reservoirAge = age;
            reservoirSpread = spread;
        }

        int measure(int age, int spread) {
            requireArgument(in(age, 0, AGE) && in(spread, 1, SPREAD));
            requireState(dates < DATES);
            return addMeasured(age, spread);
        }

        private int addMeasured(int age, int spread) {
            for (int y = 0; y < YEARS; y++) {
                weights[dates * YEARS + y] = bell(age, spread, used * YEARS + y);
            }
            dateAges[dates] = age;
            dateSpreads[dates] = spread;
            dates++;
            return dates - 1;
        }

        private int bell(int age, int spread, int row) {
            if (spreads[row] == NO_SPREAD) {
                return 0;
            }
            long off = age - reservoirAge - ages[row];
            long s = spread * spread + reservoirSpread * reservoirSpread + spreads[row] * spreads[row];
            long wide = s + off * off;
            return (int) (UNIT * s * s / (wide * wide));
        }

        /** A date that is not measured, whose weights are to be put. */
        private int addUnmeasured() {
            dateSpreads[dates] = NO_SPREAD;
            dates++;
            return dates - 1;
        }

        int weight(int date, int year) {
            requireIndex(isDate(date) && in(year, 0, YEARS - 1));
            return weights[date * YEARS + year];
        }

        int total(int date) {
            requireIndex(isDate(date));
            int sum = 0;
            for (int y = 0; y < YEARS; y++) {
                sum += weights[date * YEARS + y];
            }
            return sum;
        }

        int sum(int a, int b) {
            requireIndex(isDate(a) && isDate(b));
            requireState(dates < DATES);
            for (int y = 0; y < YEARS; y++) {
                if (weights[a * YEARS + y] + weights[b * YEARS + y] > WEIGHT) {
                    return NONE;
                }
            }
            int date = addUnmeasured();
            for (int y = 0; y < YEARS; y++) {
                weights[date * YEARS + y] = weights[a * YEARS + y] + weights[b * YEARS + y];
            }
            return date;
        }

        int mix(int a, int b, int above, int below) {
            requireIndex(isDate(a) && isDate(b));
            requireArgument(in(below, 1, SHARES) && in(above, 0, below));
            requireState(dates < DATES);
            int date = addUnmeasured();
            for (int y = 0; y < YEARS; y++) {
                long sum = (long) above * weights[a * YEARS + y] + (long) (below - above) * weights[b * YEARS + y];
                weights[date * YEARS + y] = (int) (sum / below);
            }
            return date;
        }

        int joinRepeats(int a, int b) {
            requireIndex(isDate(a) && isDate(b));
            requireState(dates < DATES);
            long p = (long) dateSpreads[a] * dateSpreads[a];
            long q = (long) dateSpreads[b] * dateSpreads[b];
            long apart = dateAges[a] - dateAges[b];
            if (p == 0 || q == 0 || apart * apart > 4 * (p + q)) {
                return NONE;
            }
            int age = (int) ((dateAges[a] * q + dateAges[b] * p) / (p + q));
            return addMeasured(age, Math.max(1, root((int) (p * q / (p + q)))));
        }

        /** The square root of what is at most the square of the greatest spread, rounded down. */
        private static int root(int square) {
            int root = 0;
            for (; root < SPREAD && (root + 1) * (root + 1) <= square; root++) {
            }
            return root;
        }

        int least(int date, int above, int below) {
            requireIndex(isDate(date));
            requireArgument(in(below, 1, SHARES) && in(above, 1, below));
            long share = (long) above * total(date);
            long sum = 0;
            int set = 0;
            for (int n = 0; n < YEARS && sum * below < share; n++) {
                int year = heaviest(date, set);
                set = with(set, year, true);
                sum += weights[date * YEARS + year];
            }
            leastSet = set;
            return Integer.bitCount(set & ~(set << 1));
        }

        /** The first of the years with the greatest weight that are not in a set. */
        private int heaviest(int date, int set) {
            int best = NONE;
            for (int y = 0; y < YEARS; y++) {
                if (!has(set, y) && (best == NONE || weights[date * YEARS + y] > weights[date * YEARS + best])) {
                    best = y;
                }
            }
            return best;
        }

        int span(int k, int end) {
            int firsts = leastSet & ~(leastSet << 1);
            int lasts = leastSet & ~(leastSet >> 1);
            requireIndex(k >= 0 && k < Integer.bitCount(firsts) && in(end, 0, 1));
            return nth(end == 0 ? firsts : lasts, k);
        }

        int addToRow(int date, int years) {
            requireIndex(isDate(date));
            requireArgument(in(years, 0, GAP));
            requireState(inRow < IN_ROW);
            rowDates[inRow] = date;
            rowGaps[inRow] = years;
            inRow++;
            return inRow;
        }

        int slid(int year) {
            requireIndex(in(year, 0, YEARS - 1));
            int sum = 0;
            for (int i = 0; i < inRow; i++) {
                int later = year + rowGaps[i];
                sum += later < YEARS ? weights[rowDates[i] * YEARS + later] : 0;
            }
            return sum;
        }

        int wiggle() {
            if (inRow == 0) {
                return NONE;
            }
            int best = 0;
            for (int y = 1; y < YEARS; y++) {
                if (slid(y) > slid(best)) {
                    best = y;
                }
            }
            return best;
        }

        int clearRow() {
            int was = inRow;
            inRow = 0;
            return was;
        }

        int addSigns(int a, int b) {
            int count = 0;
            for (int i = 0; i < 8; i++) {
                int sign = signOf(a, b, i);
                requireArgument(sign == 0 || in(sign, 32, 126));
                count += sign != 0 ? 1 : 0;
            }
            requireState(pad.length() + count <= SIGNS);
            for (int i = 0; i < 8; i++) {
                int sign = signOf(a, b, i);
                if (sign != 0) {
                    pad.append((char) sign);
                }
            }
            return pad.length();
        }

        private static int signOf(int a, int b, int i) {
            return (i < 4 ? a >> 8 * i : b >> 8 * (i - 4)) & 255;
        }

        int read() {
            int answer = readRows(false);
            if (answer > 0) {
                readRows(true);
            }
            pad.setLength(0);
            return answer;
        }

        /** Goes through the pad, and tells its rows if take is so: how many, or -1 less the first wrong place. */
        private int readRows(boolean take) {
            int year = 0;
            for (int rows = 1; rows <= SIGNS; rows++) {
                int age = behind(pad, behindNumber(pad, year, 4, 0, YEARS - 1, true), ':');
                int spread = behind(pad, behindNumber(pad, age, 4, 0, AGE, true), '+');
                int end = behindNumber(pad, spread, 4, 1, SPREAD, true);
                if (end < 0) {
                    return end;
                }
                if (take) {
                    putRow(numberAt(pad, year, age - 1), numberAt(pad, age, spread - 1), numberAt(pad, spread, end));
                }
                if (end == pad.length()) {
                    return rows;
                }
                year = behind(pad, end, ';');
                if (year < 0) {
                    return year;
                }
            }
            return -1 - pad.length();
        }

        int count(int what) {
            requireIndex(in(what, 0, 6));
            switch (what) {
                case 0: return YEARS;
                case 1: return editions;
                case 2: return used;
                case 3: return dates;
                case 4: return inRow;
                case 5: return pad.length();
                default: return rowsInUse();
            }
        }

        private int rowsInUse() {
            int count = 0;
            for (int y = 0; y < YEARS; y++) {
                count += spreads[used * YEARS + y] != NO_SPREAD ? 1 : 0;
            }
            return count;
        }
    }

    // ------------------------------------------------------------------
    // Ways
    // ------------------------------------------------------------------

    /** Which contexts have dates, as told, and the years of these as they were solved latest: sums over all ways. */
    private static final class Ways {
        private static final int DATES = 6;
        private static final int TOLD = 2 * DATES;
        private static final int SOLVES = 100;
        private static final int WEIGHT = 999;
        private static final int OUTLIERS = 10;
        private static final int SHARES = 1000;
        private static final int DIGITS = 48;
        private static final int ALL_YEARS = (1 << YEARS) - 1;
        private static final int NO_ROW = 1;
        private static final int NO_MEMBER = 2;
        private static final int NOTHING_FITS = 3;

        /** Of each context its date of the curves, or NONE, and its share of outliers. */
        private final int[] date = new int[CONTEXTS];
        private final int[] above = new int[CONTEXTS];
        private final int[] below = new int[CONTEXTS];
        private int members;
        private int solves;
        private boolean solved;
        /** Of each context which of the solved dates is its, or NONE; of each of these what its years count. */
        private final int[] slot = new int[CONTEXTS];
        private int dates;
        private final int[] counts = new int[DATES * YEARS];
        /** What was told: rows from one date to another one (in the same year, or 0 .. 11 later), then members, to NONE. */
        private final int[] from = new int[TOLD];
        private final int[] to = new int[TOLD];
        private final boolean[] same = new boolean[TOLD];
        private int rows;
        private int told;
        /** The years that each date, and behind them each bound, may have in the sum that is made. */
        private final int[] allowed = new int[DATES + 2];
        private final long[] sums = new long[DATES * YEARS * LIMBS];
        private final long[] ranges = new long[DATES * LIMBS];
        private final long[] years = new long[YEARS * LIMBS];
        private final long[] part = new long[LIMBS];
        private final long[] product = new long[LIMBS];
        private final long[] total = new long[LIMBS];

        Ways() {
            Arrays.fill(date, NONE);
            Arrays.fill(slot, NONE);
            Arrays.fill(below, 1);
        }

        boolean hasDate(int context) {
            return date[context] != NONE;
        }

        /** Whether a context has a date, or may get one. */
        boolean mayHaveDate(int context) {
            int others = 0;
            for (int c = 0; c < CONTEXTS; c++) {
                others += c != context && date[c] != NONE ? 1 : 0;
            }
            return date[context] != NONE || others < DATES;
        }

        int setDate(int context, int d) {
            int was = date[context];
            date[context] = d;
            if (d == NONE) {
                above[context] = 0;
                below[context] = 1;
                members = with(members, context, false);
            }
            return was;
        }

        void setOutlier(int context, int over, int under) {
            requireArgument(in(under, 1, OUTLIERS) && in(over, 0, under));
            above[context] = over;
            below[context] = under;
        }

        boolean setMember(int context, boolean on) {
            boolean was = has(members, context);
            members = with(members, context, on);
            return was != on;
        }

        int solveFrom(Layers layers, Curves curves) {
            requireState(solves < SOLVES);
            solves++;
            solved = false;
            takeDates(curves);
            rows = 0;
            told = 0;
            if (!tellRows(layers)) {
                return NO_ROW;
            }
            if (!tellMembers()) {
                return NO_MEMBER;
            }
            Arrays.fill(allowed, ALL_YEARS);
            solved = true;
            return fits() ? 0 : NOTHING_FITS;
        }

        private void takeDates(Curves curves) {
            dates = 0;
            for (int c = 0; c < CONTEXTS; c++) {
                slot[c] = NONE;
                if (date[c] != NONE && dates < DATES) {
                    slot[c] = dates;
                    takeCounts(curves, c);
                    dates++;
                }
            }
        }

        private void takeCounts(Curves curves, int context) {
            int sum = 0;
            for (int y = 0; y < YEARS; y++) {
                sum += Math.min(WEIGHT, curves.weight(date[context], y));
            }
            for (int y = 0; y < YEARS; y++) {
                int weight = Math.min(WEIGHT, curves.weight(date[context], y));
                counts[dates * YEARS + y] = (below[context] - above[context]) * YEARS * weight + above[context] * sum;
            }
        }

        /** The lowest of the contexts with dates that are joined with one that has a date. */
        private int standsFor(Layers layers, int context) {
            for (int c = 0; c < context; c++) {
                if (slot[c] != NONE && layers.number[c] == layers.number[context]) {
                    return c;
                }
            }
            return context;
        }

        private boolean tellRows(Layers layers) {
            int standing = 0;
            for (int c = 0; c < CONTEXTS; c++) {
                standing = with(standing, c, slot[c] != NONE && standsFor(layers, c) == c);
            }
            for (int c = 0; c < CONTEXTS; c++) {
                boolean stands = has(standing, c);
                if (stands && !tellRowsTo(layers, standing, c)) {
                    return false;
                }
                if (slot[c] != NONE && !stands && !tellRow(slot[standsFor(layers, c)], slot[c], true)) {
                    return false;
                }
            }
            return true;
        }

        private boolean tellRowsTo(Layers layers, int standing, int top) {
            for (int low = 0; low < CONTEXTS; low++) {
                if (has(standing, low) && isNext(layers, standing, top, low) && !tellRow(slot[low], slot[top], false)) {
                    return false;
                }
            }
            return true;
        }

        /** Whether one is over another one, with none that stands for itself between. */
        private boolean isNext(Layers layers, int standing, int top, int low) {
            int upper = layers.number[top];
            int lower = layers.number[low];
            if (!layers.isOver(upper, lower)) {
                return false;
            }
            for (int c = 0; c < CONTEXTS; c++) {
                int between = layers.number[c];
                if (has(standing, c) && layers.isOver(upper, between) && layers.isOver(between, lower)) {
                    return false;
                }
            }
            return true;
        }

        private boolean tellRow(int a, int b, boolean inSame) {
            if (has(tree(a), b)) {
                return false;
            }
            from[told] = a;
            to[told] = b;
            same[told] = inSame;
            told++;
            rows++;
            return true;
        }

        /** All dates that rows join with one, with it. */
        private int tree(int d) {
            int set = 1 << d;
            for (int pass = 0; pass < DATES; pass++) {
                for (int t = 0; t < rows; t++) {
                    int both = 1 << from[t] | 1 << to[t];
                    set |= (set & both) != 0 ? both : 0;
                }
            }
            return set;
        }

        private boolean tellMembers() {
            int held = 0;
            for (int c = 0; c < CONTEXTS; c++) {
                if (has(members, c) && slot[c] != NONE) {
                    if ((held & tree(slot[c])) != 0) {
                        return false;
                    }
                    held |= 1 << slot[c];
                    from[told] = slot[c];
                    to[told] = NONE;
                    told++;
                }
            }
            return true;
        }

        /** Sums all ways within the allowed years into total; without what is left out of what was told. */
        private void sumWays(int leftOut) {
            int rowsLeft = (1 << rows) - 1 & ~leftOut;
            int held = heldDates(leftOut);
            int gone = 0;
            for (int i = 0; i < dates * YEARS; i++) {
                setGreat(sums, i * LIMBS, has(allowed[i / YEARS], i % YEARS) ? counts[i] : 0);
            }
            for (int step = 0; step < DATES && rowsLeft != 0; step++) {
                int row = rowWithLeaf(rowsLeft, held);
                int leaf = row == NONE ? NONE : leafOf(row, rowsLeft, held);
                if (leaf == NONE) {
                    break;
                }
                foldLeaf(row, leaf);
                gone |= 1 << leaf;
                rowsLeft &= ~(1 << row);
            }
            setGreat(total, 0, 1);
            for (int d = 0; d < dates; d++) {
                if (!has(gone | held, d)) {
                    setGreat(part, 0, 0);
                    for (int y = 0; y < YEARS; y++) {
                        addGreat(part, 0, sums, (d * YEARS + y) * LIMBS, 1);
                    }
                    multiplyGreats(total, 0, part, 0);
                }
            }
            if (held != 0) {
                sumBounds(held);
                multiplyGreats(total, 0, part, 0);
            }
        }

        private int heldDates(int leftOut) {
            int held = 0;
            for (int t = rows; t < told; t++) {
                held |= has(leftOut, t) ? 0 : 1 << from[t];
            }
            return held;
        }

        /** A row one of whose dates no other row joins, and is no member: its ways can be summed up into the other one. */
        private int rowWithLeaf(int rowsLeft, int held) {
            for (int t = 0; t < rows; t++) {
                if (has(rowsLeft, t) && leafOf(t, rowsLeft, held) != NONE) {
                    return t;
                }
            }
            return NONE;
        }

        private int leafOf(int row, int rowsLeft, int held) {
            int joined = held;
            for (int t = 0; t < rows; t++) {
                if (t != row && (rowsLeft >> t & 1) != 0) {
                    joined |= 1 << from[t] | 1 << to[t];
                }
            }
            if ((joined >> from[row] & 1) == 0) {
                return from[row];
            }
            return (joined >> to[row] & 1) == 0 ? to[row] : NONE;
        }

        /** A row holds for the same year or for any later one, so that the years that suit grow by one each time. */
        private void foldLeaf(int row, int leaf) {
            boolean later = leaf == to[row];
            int other = later ? from[row] : to[row];
            setGreat(part, 0, 0);
            for (int i = 0; i < YEARS; i++) {
                int y = later ? YEARS - 1 - i : i;
                if (same[row]) {
                    setGreat(part, 0, 0);
                }
                addGreat(part, 0, sums, (leaf * YEARS + y) * LIMBS, 1);
                if (!isNoGreat(sums, (other * YEARS + y) * LIMBS)) {
                    multiplyGreats(sums, (other * YEARS + y) * LIMBS, part, 0);
                }
            }
        }

        /** Sums over both bounds, into part, the products of what the members count within them. */
        private void sumBounds(int held) {
            setGreat(part, 0, 0);
            for (int first = 0; first < YEARS; first++) {
                Arrays.fill(ranges, 0);
                for (int last = first; last < YEARS && has(allowed[DATES], first); last++) {
                    setGreat(product, 0, 1);
                    for (int d = 0; d < dates; d++) {
                        if (has(held, d)) {
                            addGreat(ranges, d * LIMBS, sums, (d * YEARS + last) * LIMBS, 1);
                            multiplyGreats(product, 0, ranges, d * LIMBS);
                        }
                    }
                    addGreat(part, 0, product, 0, has(allowed[DATES + 1], last) ? 1 : 0);
                }
            }
        }

        /** Sums the ways in which one (a date, or a bound behind the dates) has a year. */
        private void sumWith(int one, int year) {
            int was = allowed[one];
            allowed[one] = was & 1 << year;
            sumWays(0);
            allowed[one] = was;
        }

        /** Whether a context had a date when all was solved. */
        boolean hadDate(int context) {
            return slot[context] != NONE;
        }

        boolean isSolved() {
            return solved;
        }

        private static boolean isYear(int year) {
            return year >= 0 && year < YEARS;
        }

        private static boolean isDigitPlace(int digit) {
            return digit >= 0 && digit < DIGITS;
        }

        int totalDigit(int digit) {
            requireElement(isDigitPlace(digit));
            sumWays(0);
            return digitOfGreat(total, 0, digit);
        }

        int answered(int context, int year, int digit) {
            requireElement(hadDate(context) && isYear(year) && isDigitPlace(digit));
            sumWith(slot[context], year);
            return digitOfGreat(total, 0, digit);
        }

        int bound(int which, int year, int digit) {
            requireElement(in(which, 0, 1) && isYear(year) && isDigitPlace(digit));
            requireState(told > rows);
            sumWith(DATES + which, year);
            return digitOfGreat(total, 0, digit);
        }

        int both(int a, int x, int b, int y, int digit) {
            requireElement(hadDate(a) && hadDate(b) && isYear(x) && isYear(y) && isDigitPlace(digit));
            allowed[slot[a]] = 1 << x;
            sumWith(slot[b], y);
            allowed[slot[a]] = ALL_YEARS;
            return digitOfGreat(total, 0, digit);
        }

        int span(int context, int which) {
            requireElement(hadDate(context) && in(which, 0, 1));
            for (int i = 0; i < YEARS; i++) {
                int year = which == 0 ? i : YEARS - 1 - i;
                sumWith(slot[context], year);
                if (!isNoGreat(total, 0)) {
                    return year;
                }
            }
            return NONE;
        }

        int narrow(int context, int over, int under) {
            requireElement(hadDate(context));
            requireArgument(in(under, 1, SHARES) && in(over, 1, under));
            for (int y = 0; y < YEARS; y++) {
                sumWith(slot[context], y);
                System.arraycopy(total, 0, years, y * LIMBS, LIMBS);
            }
            setGreat(product, 0, 0);
            for (int y = 0; y < YEARS; y++) {
                addGreat(product, 0, years, y * LIMBS, over);
            }
            if (isNoGreat(product, 0)) {
                return NONE;
            }
            for (int length = 1; length <= YEARS; length++) {
                for (int first = 0; first + length <= YEARS; first++) {
                    if (hasShare(first, first + length - 1, under)) {
                        return 100 * first + first + length - 1;
                    }
                }
            }
            return NONE;
        }

        /** Whether so many times what a row of years counts is at least product. */
        private boolean hasShare(int first, int last, int times) {
            setGreat(part, 0, 0);
            for (int y = first; y <= last; y++) {
                addGreat(part, 0, years, y * LIMBS, times);
            }
            return compareGreats(part, 0, product, 0) >= 0;
        }

        boolean fits() {
            sumWays(0);
            return !isNoGreat(total, 0);
        }

        int fitless(int k) {
            requireElement(k >= 0);
            if (fits()) {
                return NONE;
            }
            int leftOut = 0;
            for (int t = 0; t < told; t++) {
                sumWays(leftOut | 1 << t);
                if (isNoGreat(total, 0)) {
                    leftOut |= 1 << t;
                }
            }
            return nth((1 << told) - 1 & ~leftOut, k);
        }

        int count(int what) {
            requireElement(in(what, 0, 2));
            switch (what) {
                case 0: return dates;
                case 1: return rows;
                default: return told - rows;
            }
        }
    }

    // ------------------------------------------------------------------
    // Owners
    // ------------------------------------------------------------------

    /** Histories of owners, what is known of them on a day, claims, rights, licences and values. */
    private static final class Owners {
        private static final int PERSONS = 32;
        private static final int ROLES = 8;
        private static final int ROWS = 120;
        private static final int CORRECTIONS = 200;
        private static final int DANGERS = 10;
        private static final int CLAIMS = 30;
        private static final int KINDS = 4;
        private static final int LICENCES = 40;
        private static final int USES = 8;
        private static final int VALUES = 60;
        private static final int CURRENCIES = 8;
        private static final int SHARES = 1000;
        private static final int MOST_YEARS = 200;
        private static final int DAYS_OF_YEAR = 365;
        private static final int MOST_PART = 1000000000;
        /** A row: thing, person, from, to (the last three are its fields), told, above, below, doubt, seals. */
        private static final int ROW = 9;
        private static final int FIELD = 1;
        private static final int TOLD = 4;
        private static final int ABOVE = 5;
        private static final int BELOW = 6;
        private static final int DOUBT = 7;
        private static final int SEALS = 8;
        private static final int FIELDS = 3;
        private static final int PERSON = 0;
        private static final int FROM = 1;
        private static final int TO = 2;

        private int things;
        private int rowCount;
        private final int[] rows = new int[ROWS * ROW];
        /** Row, field, value, told. */
        private int correctionCount;
        private final int[] corrections = new int[CORRECTIONS * 4];
        /** Person, from, to. */
        private int dangerCount;
        private final int[] dangers = new int[DANGERS * 3];
        /** Thing, day, the day when it was settled or NONE; nothing is asked of its person. */
        private int claimCount;
        private final int[] claims = new int[CLAIMS * 3];
        private final int[] lasting = new int[KINDS];
        private final int[] makers = new int[OBJECTS];
        private final int[] ends = new int[PERSONS];
        /** Thing, use, from, to. */
        private int licenceCount;
        private final int[] licences = new int[LICENCES * 4];
        /** Thing, day, currency, value. */
        private int valueCount;
        private final int[] values = new int[VALUES * 4];
        /** The fields of all rows as known on the day that was asked for, and the days from which they are so. */
        private final int[] known = new int[ROWS * FIELDS];
        private final int[] since = new int[ROWS * FIELDS];
        private final int[] sorted = new int[ROWS];
        private final StringBuilder chain = new StringBuilder();

        Owners() {
            Arrays.fill(makers, NONE);
            Arrays.fill(ends, NONE);
        }

        void addThing() {
            things = Math.min(OBJECTS, things + 1);
        }

        private boolean isThing(int thing) {
            return thing >= 0 && thing < things;
        }

        private static boolean isOwner(int person) {
            return person >= 0 && person < PERSONS;
        }

        private boolean isRow(int row) {
            return row >= 0 && row < rowCount;
        }

        int tellRow(int thing, int person, int from, int to, int told) {
            requireElement(isThing(thing) && isOwner(person));
            requireArgument(isDay(from) && isDay(to) && isDay(told) && from <= to);
            requireState(rowCount < ROWS);
            int at = rowCount * ROW;
            rows[at] = thing;
            rows[at + FIELD + PERSON] = person;
            rows[at + FIELD + FROM] = from;
            rows[at + FIELD + TO] = to;
            rows[at + TOLD] = told;
            rows[at + ABOVE] = 1;
            rows[at + BELOW] = 1;
            rowCount++;
            return rowCount - 1;
        }

        void setShare(int row, int above, int below) {
            requireElement(isRow(row));
            requireArgument(in(below, 1, SHARES) && in(above, 1, below));
            rows[row * ROW + ABOVE] = above;
            rows[row * ROW + BELOW] = below;
        }

        boolean setDoubt(int row, boolean on) {
            requireElement(isRow(row));
            boolean was = rows[row * ROW + DOUBT] != 0;
            rows[row * ROW + DOUBT] = on ? 1 : 0;
            return was != on;
        }

        void correct(int row, int field, int v, int told) {
            requireElement(isRow(row) && in(field, 0, FIELDS - 1) && (field != PERSON || isOwner(v)));
            requireArgument((field == PERSON || isDay(v)) && isDay(told) && told >= rows[row * ROW + TOLD]);
            requireState(correctionCount < CORRECTIONS);
            int at = correctionCount * 4;
            corrections[at] = row;
            corrections[at + 1] = field;
            corrections[at + 2] = v;
            corrections[at + 3] = told;
            correctionCount++;
        }

        /** Finds the fields of all rows as known on a day. */
        private void learn(int day) {
            for (int row = 0; row < rowCount; row++) {
                for (int field = 0; field < FIELDS; field++) {
                    known[row * FIELDS + field] = rows[row * ROW + FIELD + field];
                    since[row * FIELDS + field] = NONE;
                }
            }
            for (int c = 0; c < correctionCount; c++) {
                int at = corrections[c * 4] * FIELDS + corrections[c * 4 + 1];
                int told = corrections[c * 4 + 3];
                if (told <= day && told >= since[at]) {
                    known[at] = corrections[c * 4 + 2];
                    since[at] = told;
                }
            }
        }

        /** Whether a row is one of a thing that was told by a day and is not void then, as it is known. */
        private boolean counts(int row, int thing, int day) {
            return rows[row * ROW] == thing && rows[row * ROW + TOLD] <= day
                    && known[row * FIELDS + FROM] <= known[row * FIELDS + TO];
        }

        private boolean lies(int row, int on) {
            return known[row * FIELDS + FROM] <= on && on <= known[row * FIELDS + TO];
        }

        int known(int row, int field, int day) {
            requireElement(isRow(row) && in(field, 0, FIELDS - 1));
            requireArgument(isDay(day));
            if (rows[row * ROW + TOLD] > day) {
                return NONE;
            }
            learn(day);
            return known[row * FIELDS + field];
        }

        int gap(int thing, int k, int end, int day) {
            requireElement(isThing(thing) && k >= 0 && in(end, 0, 1));
            requireArgument(isDay(day));
            learn(day);
            int last = firstFrom(thing, day, 0) - 1;
            int left = k;
            for (int step = 0; step <= ROWS && last >= NONE; step++) {
                last = lastWithout(thing, day, last);
                int next = firstFrom(thing, day, last + 1);
                if (next == NONE) {
                    return NONE;
                }
                if (left == 0) {
                    return end == 0 ? last + 1 : next - 1;
                }
                left--;
                last = next - 1;
            }
            return NONE;
        }

        /** The least day not below a day from which on some row lies; NONE if there is none. */
        private int firstFrom(int thing, int day, int least) {
            int first = NONE;
            for (int row = 0; row < rowCount; row++) {
                int from = known[row * FIELDS + FROM];
                if (counts(row, thing, day) && from >= least && (first == NONE || from < first)) {
                    first = from;
                }
            }
            return first;
        }

        /** The last day up to which, from the one behind a day on, rows lie on all days. */
        private int lastWithout(int thing, int day, int from) {
            int last = from;
            for (int pass = 0; pass <= ROWS; pass++) {
                int further = last;
                for (int row = 0; row < rowCount; row++) {
                    if (counts(row, thing, day) && known[row * FIELDS + FROM] <= further + 1) {
                        further = Math.max(further, known[row * FIELDS + TO]);
                    }
                }
                if (further == last) {
                    return last;
                }
                last = further;
            }
            return last;
        }

        int held(int thing, int on, int day, int part) {
            requireElement(isThing(thing) && in(part, 0, 1));
            requireArgument(isDay(on) && isDay(day));
            learn(day);
            long above = 0;
            long below = 1;
            for (int row = 0; row < rowCount; row++) {
                if (counts(row, thing, day) && lies(row, on)) {
                    long moreBelow = rows[row * ROW + BELOW];
                    above = above * moreBelow + rows[row * ROW + ABOVE] * below;
                    below = below * moreBelow;
                    long common = greatestCommon(above, below);
                    above /= common;
                    below /= common;
                    requireState(above <= MOST_PART && below <= MOST_PART);
                }
            }
            return (int) (part == 0 ? above : below);
        }

        /** The greatest divisor of both, 1 at least; it takes far less than a hundred steps. */
        private static long greatestCommon(long a, long b) {
            long one = a;
            long other = b;
            for (int step = 0; step < 200 && other != 0; step++) {
                long rest = one % other;
                one = other;
                other = rest;
            }
            return Math.max(1, one);
        }

        int addDanger(int person, int from, int to) {
            requireElement(person == NONE || isOwner(person));
            requireArgument(isDay(from) && isDay(to) && from <= to);
            requireState(dangerCount < DANGERS);
            dangers[dangerCount * 3] = person;
            dangers[dangerCount * 3 + 1] = from;
            dangers[dangerCount * 3 + 2] = to;
            dangerCount++;
            return dangerCount - 1;
        }

        int asked(int thing, int k, int day) {
            requireElement(isThing(thing) && k >= 0);
            requireArgument(isDay(day));
            learn(day);
            int left = k;
            for (int row = 0; row < rowCount; row++) {
                if (counts(row, thing, day) && isInDanger(row)) {
                    if (left == 0) {
                        return row;
                    }
                    left--;
                }
            }
            return NONE;
        }

        private boolean isInDanger(int row) {
            int at = row * FIELDS;
            for (int rule = 0; rule < dangerCount; rule++) {
                int person = dangers[rule * 3];
                if ((person == NONE || person == known[at + PERSON]) && known[at + FROM] <= dangers[rule * 3 + 2]
                        && dangers[rule * 3 + 1] <= known[at + TO]) {
                    return true;
                }
            }
            return false;
        }

        int addClaim(int thing, int person, int day) {
            requireElement(isThing(thing) && isOwner(person));
            requireArgument(isDay(day));
            requireState(claimCount < CLAIMS);
            claims[claimCount * 3] = thing;
            claims[claimCount * 3 + 1] = day;
            claims[claimCount * 3 + 2] = NONE;
            claimCount++;
            return claimCount - 1;
        }

        void settle(int claim, int day) {
            requireElement(in(claim, 0, claimCount - 1));
            requireArgument(isDay(day) && day >= claims[claim * 3 + 1]);
            requireState(claims[claim * 3 + 2] == NONE);
            claims[claim * 3 + 2] = day;
        }

        boolean stops(int thing, int day) {
            requireElement(isThing(thing));
            requireArgument(isDay(day));
            for (int c = 0; c < claimCount; c++) {
                int settled = claims[c * 3 + 2];
                if (claims[c * 3] == thing && claims[c * 3 + 1] <= day && (settled == NONE || day < settled)) {
                    return true;
                }
            }
            return false;
        }

        void tellRight(int what, int a, int b) {
            requireElement(in(what, 0, 2));
            switch (what) {
                case 0:
                    requireElement(in(a, 0, KINDS - 1));
                    requireArgument(in(b, 0, MOST_YEARS));
                    lasting[a] = b;
                    break;
                case 1:
                    requireElement(isThing(a) && isOwner(b));
                    makers[a] = b;
                    break;
                default:
                    requireElement(isOwner(a));
                    requireArgument(isDay(b));
                    ends[a] = b;
                    break;
            }
        }

        int rights(int thing, int kind, int day) {
            requireElement(isThing(thing) && in(kind, 0, KINDS - 1));
            requireArgument(isDay(day));
            int maker = makers[thing];
            if (maker == NONE || ends[maker] == NONE || day <= ends[maker] + lasting[kind] * DAYS_OF_YEAR) {
                return maker;
            }
            return NONE;
        }

        int addLicence(int thing, int use, int from, int to) {
            requireElement(isThing(thing) && in(use, 0, USES - 1));
            requireArgument(isDay(from) && isDay(to) && from <= to);
            requireState(licenceCount < LICENCES);
            licences[licenceCount * 4] = thing;
            licences[licenceCount * 4 + 1] = use;
            licences[licenceCount * 4 + 2] = from;
            licences[licenceCount * 4 + 3] = to;
            licenceCount++;
            return licenceCount;
        }

        boolean isLicensed(int thing, int use, int day) {
            requireElement(isThing(thing) && in(use, 0, USES - 1));
            requireArgument(isDay(day));
            for (int l = 0; l < licenceCount; l++) {
                if (licences[l * 4] == thing && licences[l * 4 + 1] == use
                        && in(day, licences[l * 4 + 2], licences[l * 4 + 3])) {
                    return true;
                }
            }
            return false;
        }

        boolean seal(int row, int role, boolean on) {
            requireElement(isRow(row) && in(role, 0, ROLES - 1));
            int seals = rows[row * ROW + SEALS];
            rows[row * ROW + SEALS] = with(seals, role, on);
            return has(seals, role) != on;
        }

        int seen(int thing, int role, int k, int day) {
            requireElement(isThing(thing) && in(role, 0, ROLES - 1) && k >= 0);
            requireArgument(isDay(day));
            learn(day);
            int left = k;
            for (int row = 0; row < rowCount; row++) {
                if (counts(row, thing, day) && !has(rows[row * ROW + SEALS], role)) {
                    if (left == 0) {
                        return row;
                    }
                    left--;
                }
            }
            return NONE;
        }

        int addWorth(int thing, int day, int currency, int v) {
            requireElement(isThing(thing) && in(currency, 0, CURRENCIES - 1));
            requireArgument(isDay(day) && v >= 0);
            requireState(valueCount < VALUES);
            values[valueCount * 4] = thing;
            values[valueCount * 4 + 1] = day;
            values[valueCount * 4 + 2] = currency;
            values[valueCount * 4 + 3] = v;
            valueCount++;
            return valueCount;
        }

        int value(int thing, int day, int currency) {
            requireElement(isThing(thing) && in(currency, 0, CURRENCIES - 1));
            requireArgument(isDay(day));
            int best = NONE;
            for (int i = 0; i < valueCount; i++) {
                boolean suits = values[i * 4] == thing && values[i * 4 + 2] == currency && values[i * 4 + 1] <= day;
                if (suits && (best == NONE || values[i * 4 + 1] >= values[best * 4 + 1])) {
                    best = i;
                }
            }
            return best == NONE ? NONE : values[best * 4 + 3];
        }

        int chainSign(int thing, int day, int i) {
            requireElement(isThing(thing) && i >= NONE);
            requireArgument(isDay(day));
            learn(day);
            int count = sort(thing, day);
            chain.setLength(0);
            for (int k = 0; k < count; k++) {
                int at = sorted[k] * FIELDS;
                chain.append(known[at + PERSON]).append('@').append(known[at + FROM]);
                chain.append('-').append(known[at + TO]);
                if (rows[sorted[k] * ROW + DOUBT] != 0) {
                    chain.append('?');
                }
                chain.append(';');
            }
            requireElement(i < chain.length());
            return i == NONE ? chain.length() : chain.charAt(i);
        }

        /** Puts the rows of a thing in order by their first days, of equal ones by number: how many they are. */
        private int sort(int thing, int day) {
            int count = 0;
            for (int row = 0; row < rowCount; row++) {
                if (counts(row, thing, day)) {
                    int at = count;
                    for (; at > 0 && known[sorted[at - 1] * FIELDS + FROM] > known[row * FIELDS + FROM]; at--) {
                        sorted[at] = sorted[at - 1];
                    }
                    sorted[at] = row;
                    count++;
                }
            }
            return count;
        }
    }

    // ------------------------------------------------------------------
    // Places
    // ------------------------------------------------------------------

    /** Places within places, and where objects were in them, hour by hour. */
    private static final class Places {
        private static final int PLACES = 24;
        private static final int LOAD = 1000000000;
        private static final int SIZE = 10000;
        private static final int GRAMS = 1000000;
        private static final int PERSONS = 10;
        private static final int ROWS = 40;
        private static final int PLANS = 30;
        private static final int DOORS = 40;
        private static final int QUIETS = 20;
        private static final int LAST_HOUR = 1000000;
        private static final int SIZES = 3;
        /** A row: its hour, its kind, the place or box. */
        private static final int ROW = 3;
        private static final int IN_PLACE = 0;
        private static final int IN_BOX = 1;
        private static final int LOST = 2;
        private static final int BARRED = 1;
        private static final int TOO_HEAVY = 2;

        private int present;
        private int places;
        private final int[] outer = new int[PLACES];
        private final int[] loads = new int[PLACES];
        private int objects;
        /** Three sizes of each object, the least first. */
        private final int[] sizes = new int[OBJECTS * SIZES];
        private final int[] grams = new int[OBJECTS];
        private final int[] keys = new int[OBJECTS];
        private int boxes;
        private int keyHolders;
        private final int[] rowCounts = new int[OBJECTS];
        private final int[] rows = new int[OBJECTS * ROWS * ROW];
        /** Object, place, from, to. */
        private int planCount;
        private final int[] plans = new int[PLANS * 4];
        /** Place, place, the greater size, the lesser one. */
        private int doorCount;
        private final int[] doors = new int[DOORS * 4];
        /** Place, from, to. */
        private int quietCount;
        private final int[] quiets = new int[QUIETS * 3];

        boolean isPlace(int place) {
            return place >= 0 && place < places;
        }

        boolean isObject(int object) {
            return object >= 0 && object < objects;
        }

        static boolean isPerson(int person) {
            return person >= 0 && person < PERSONS;
        }

        int addPlace(int into, int load) {
            requireElement(into == NONE || isPlace(into));
            requireArgument(in(load, 1, LOAD));
            requireState(places < PLACES);
            outer[places] = into;
            loads[places] = load;
            places++;
            return places - 1;
        }

        int addObject(int w, int h, int d, int weight) {
            requireArgument(in(w, 1, SIZE) && in(h, 1, SIZE) && in(d, 1, SIZE) && in(weight, 1, GRAMS));
            requireState(objects < OBJECTS);
            int least = Math.min(w, Math.min(h, d));
            int greatest = Math.max(w, Math.max(h, d));
            sizes[objects * SIZES] = least;
            sizes[objects * SIZES + 1] = w + h + d - least - greatest;
            sizes[objects * SIZES + 2] = greatest;
            grams[objects] = weight;
            objects++;
            return objects - 1;
        }

        /** The place in which a place lies; NONE. */
        int outerOf(int place) {
            return isPlace(place) ? outer[place] : NONE;
        }

        /** Whether a place is another one, or lies in it. */
        boolean lies(int place, int within) {
            int here = place;
            for (int step = 0; step < PLACES && here != NONE; step++) {
                if (here == within) {
                    return true;
                }
                here = outer[here];
            }
            return false;
        }

        /** Where in rows the row that holds of an object at an hour stands; NONE. */
        private int rowAt(int object, int hour) {
            for (int k = rowCounts[object] - 1; k >= 0; k--) {
                int at = (object * ROWS + k) * ROW;
                if (rows[at] <= hour) {
                    return at;
                }
            }
            return NONE;
        }

        /** The place where an object is at an hour; boxes stand in boxes at most as many times as there are objects. */
        int where(int object, int hour) {
            int here = object;
            for (int step = 0; step < OBJECTS; step++) {
                int at = rowAt(here, hour);
                if (at == NONE || rows[at + 1] == LOST) {
                    return NONE;
                }
                if (rows[at + 1] == IN_PLACE) {
                    return rows[at + 2];
                }
                here = rows[at + 2];
            }
            return NONE;
        }

        /** Whether a thing is an object, or is in it, over any others. */
        private boolean holds(int object, int thing, int hour) {
            int here = thing;
            for (int step = 0; step <= OBJECTS; step++) {
                if (here == object) {
                    return true;
                }
                int at = rowAt(here, hour);
                if (at == NONE || rows[at + 1] != IN_BOX) {
                    return false;
                }
                here = rows[at + 2];
            }
            return false;
        }

        private void addRow(int object, int hour, int kind, int what) {
            int at = (object * ROWS + rowCounts[object]) * ROW;
            rows[at] = hour;
            rows[at + 1] = kind;
            rows[at + 2] = what;
            rowCounts[object]++;
        }

        private int weight(int place, int hour) {
            int sum = 0;
            for (int object = 0; object < objects; object++) {
                if (lies(where(object, hour), place) || isPlanned(object, place, hour)) {
                    sum += grams[object];
                }
            }
            return sum;
        }

        private boolean isPlanned(int object, int place, int hour) {
            for (int p = 0; p < planCount; p++) {
                if (plans[p * 4] == object && in(hour, plans[p * 4 + 2], plans[p * 4 + 3])
                        && lies(plans[p * 4 + 1], place)) {
                    return true;
                }
            }
            return false;
        }

        /**
         * Whether a place, and all in which it lies, bear what stands in them from an hour to another one.
         * From the present hour on weights grow at the first hours of plans alone.
         */
        private boolean bears(int place, int from, int to) {
            for (int p = NONE; p < planCount; p++) {
                int hour = p == NONE ? from : plans[p * 4 + 2];
                int here = in(hour, from, to) ? place : NONE;
                for (int step = 0; step < PLACES && here != NONE; step++) {
                    if (weight(here, hour) > loads[here]) {
                        return false;
                    }
                    here = outer[here];
                }
            }
            return true;
        }

        private boolean isBarred(int from, int to, int hour) {
            for (int q = 0; q < quietCount; q++) {
                int place = quiets[q * 3];
                if (in(hour, quiets[q * 3 + 1], quiets[q * 3 + 2]) && lies(from, place) != lies(to, place)) {
                    return true;
                }
            }
            return false;
        }

        private boolean opens(int object, int a, int b) {
            switch (keys[object]) {
                case 0: return true;
                case 1: return has(keyHolders, a);
                default: return a != b && has(keyHolders, a) && has(keyHolders, b);
            }
        }

        /** Moves an object; its row is taken back if a load would be passed, since all is weighed as it would stand. */
        int move(int object, int place, int hour, int a, int b) {
            requireState(rowCounts[object] < ROWS && opens(object, a, b));
            if (isBarred(where(object, hour), place, hour)) {
                return BARRED;
            }
            addRow(object, hour, IN_PLACE, place);
            if (!bears(place, hour, LAST_HOUR)) {
                rowCounts[object]--;
                return TOO_HEAVY;
            }
            present = hour;
            return 0;
        }

        int packInto(int object, int box, int hour) {
            requireState(rowCounts[object] < ROWS);
            if (!has(boxes, box) || holds(object, box, hour)) {
                return 1;
            }
            if (!isSmaller(object, box)) {
                return 2;
            }
            if (keys[object] > 0) {
                return 3;
            }
            int place = where(box, hour);
            if (isBarred(where(object, hour), place, hour)) {
                return 4;
            }
            addRow(object, hour, IN_BOX, box);
            if (place != NONE && !bears(place, hour, LAST_HOUR)) {
                rowCounts[object]--;
                return 5;
            }
            present = hour;
            return 0;
        }

        private boolean isSmaller(int object, int box) {
            for (int i = 0; i < SIZES; i++) {
                if (sizes[object * SIZES + i] >= sizes[box * SIZES + i]) {
                    return false;
                }
            }
            return true;
        }

        boolean loseAt(int object, int hour) {
            requireState(rowCounts[object] < ROWS);
            int at = rowAt(object, present);
            if (at == NONE || rows[at + 1] != IN_PLACE) {
                return false;
            }
            addRow(object, hour, LOST, NONE);
            present = hour;
            return true;
        }

        int setKeys(int object, int n) {
            requireElement(isObject(object));
            requireArgument(in(n, 0, 2));
            int was = keys[object];
            keys[object] = n;
            return was;
        }

        boolean setKey(int person, boolean on) {
            requireElement(isPerson(person));
            boolean was = has(keyHolders, person);
            keyHolders = with(keyHolders, person, on);
            return was != on;
        }

        boolean makeBox(int object) {
            requireElement(isObject(object));
            boolean was = has(boxes, object);
            boxes = with(boxes, object, true);
            return !was;
        }

        int whereAt(int object, int hour) {
            requireElement(isObject(object));
            return where(object, hour);
        }

        /** Goes back over the hours at which some row begins; between them no object is moved. */
        int last(int object) {
            requireElement(isObject(object));
            int hour = present;
            for (int step = 0; step <= OBJECTS * ROWS && hour >= 0; step++) {
                int place = where(object, hour);
                if (place != NONE) {
                    return place;
                }
                hour = latestRow(hour) - 1;
            }
            return NONE;
        }

        /** The greatest hour of any row that is not above an hour; NONE if there is none. */
        private int latestRow(int hour) {
            int latest = NONE;
            for (int object = 0; object < objects; object++) {
                int at = rowAt(object, hour);
                latest = at == NONE ? latest : Math.max(latest, rows[at]);
            }
            return latest;
        }

        int history(int object, int k, int what) {
            requireElement(isObject(object) && k >= 0 && k < rowCounts[object]);
            requireArgument(in(what, 0, ROW - 1));
            return rows[(object * ROWS + k) * ROW + what];
        }

        int addDoor(int a, int b, int w, int h) {
            requireElement(isPlace(a) && isPlace(b));
            requireArgument(a != b && in(w, 1, SIZE) && in(h, 1, SIZE));
            requireState(doorCount < DOORS);
            doors[doorCount * 4] = a;
            doors[doorCount * 4 + 1] = b;
            doors[doorCount * 4 + 2] = Math.max(w, h);
            doors[doorCount * 4 + 3] = Math.min(w, h);
            doorCount++;
            return doorCount - 1;
        }

        boolean passes(int object, int door) {
            requireElement(isObject(object) && in(door, 0, doorCount - 1));
            return goesThrough(object, door);
        }

        private boolean goesThrough(int object, int door) {
            int least = sizes[object * SIZES];
            int middle = sizes[object * SIZES + 1];
            int greatest = sizes[object * SIZES + 2];
            int w = doors[door * 4 + 2];
            int h = doors[door * 4 + 3];
            return isFace(middle, least, w, h) || isFace(greatest, least, w, h) || isFace(greatest, middle, w, h);
        }

        private static boolean isFace(long p, long q, long w, long h) {
            if (q > h) {
                return false;
            }
            long apart = p - q;
            long both = p + q;
            return p <= w || (w + h) * (w + h) * apart * apart + (w - h) * (w - h) * both * both
                    >= 2 * apart * both * apart * both;
        }

        int way(int object, int to) {
            requireElement(isObject(object) && isPlace(to));
            int from = where(object, present);
            if (from == NONE) {
                return NONE;
            }
            int reached = 1 << from;
            for (int count = 0; count < PLACES; count++) {
                if (has(reached, to)) {
                    return count;
                }
                int further = reached;
                for (int door = 0; door < doorCount; door++) {
                    int sides = 1 << doors[door * 4] | 1 << doors[door * 4 + 1];
                    further |= (reached & sides) != 0 && goesThrough(object, door) ? sides : 0;
                }
                reached = further;
            }
            return NONE;
        }

        int plan(int object, int place, int from, int to) {
            requireElement(isObject(object) && isPlace(place));
            requireArgument(from >= present && to >= from && to <= LAST_HOUR);
            requireState(planCount < PLANS);
            plans[planCount * 4] = object;
            plans[planCount * 4 + 1] = place;
            plans[planCount * 4 + 2] = from;
            plans[planCount * 4 + 3] = to;
            planCount++;
            if (!bears(place, from, to)) {
                planCount--;
                return 1;
            }
            return 0;
        }

        int used(int place, int hour) {
            requireElement(isPlace(place));
            return weight(place, hour);
        }

        void addQuiet(int place, int from, int to) {
            requireElement(isPlace(place));
            requireArgument(from >= 0 && to >= from);
            requireState(quietCount < QUIETS);
            quiets[quietCount * 3] = place;
            quiets[quietCount * 3 + 1] = from;
            quiets[quietCount * 3 + 2] = to;
            quietCount++;
        }

        int count(int what) {
            requireArgument(in(what, 0, 5));
            switch (what) {
                case 0: return places;
                case 1: return objects;
                case 2: return doorCount;
                case 3: return planCount;
                case 4: return present;
                default: return allRows();
            }
        }

        private int allRows() {
            int sum = 0;
            for (int object = 0; object < objects; object++) {
                sum += rowCounts[object];
            }
            return sum;
        }
    }

    // ------------------------------------------------------------------
    // Terms
    // ------------------------------------------------------------------

    /** Contracts as texts, loans under them, what is fed and held against them hour by hour, requests. */
    private static final class Terms {
        private static final int SIGNS = 80;
        private static final int CONTRACTS = 8;
        private static final int MOST_TERMS = 6;
        private static final int MOST_OPEN = 5;
        private static final int MOST_TURNS = 3;
        private static final int DIGITS = 6;
        private static final int MOST_VALUE = 999999;
        private static final int INPUTS = 8;
        private static final int INPUT_ROWS = 60;
        private static final int THINGS = 16;
        private static final int LOANS = 20;
        private static final int MOST_TOLD = 100;
        private static final int REQUESTS = 30;
        private static final int LAST_HOUR = 2400000;
        private static final int LOAN_NUMBER = 100;
        /** A loan: thing, contract, from, to, what it answered latest, how many were told, which of these still, shielded. */
        private static final int LOAN = 8;
        private static final int THING = 0;
        private static final int CONTRACT = 1;
        private static final int FROM = 2;
        private static final int TO = 3;
        private static final int ANSWER = 4;
        private static final int TOLD = 5;
        private static final int STILL = 6;
        private static final int SHIELD = 7;

        private final StringBuilder pad = new StringBuilder();
        private int contracts;
        private final char[] texts = new char[CONTRACTS * SIGNS];
        private final int[] lengths = new int[CONTRACTS];
        private final int[] termCounts = new int[CONTRACTS];
        /** Of each input its rows: hour, value; and from when to when it fails (never at first). */
        private final int[] inputRows = new int[INPUTS];
        private final int[] inputs = new int[INPUTS * INPUT_ROWS * 2];
        private final int[] fails = new int[INPUTS * 2];
        private int loanCount;
        private final int[] loans = new int[LOANS * LOAN];
        /** Of each loan what was told: hour, term. */
        private final int[] told = new int[LOANS * MOST_TOLD * 2];
        /** Thing, from, to. */
        private int requestCount;
        private final int[] requests = new int[REQUESTS * 3];
        private final StringBuilder out = new StringBuilder();
        /** Where a contract is read on, and up to where. */
        private int at;
        private int end;
        /** Whether a name was looked at that could not be asked, and of each term if it is open, good or broken. */
        private boolean open;
        private int openTerms;
        private int brokenTerms;

        Terms() {
            Arrays.fill(fails, NONE);
        }

        boolean isContract(int contract) {
            return contract >= 0 && contract < contracts;
        }

        private boolean isLoan(int loan) {
            return loan >= 0 && loan < loanCount;
        }

        int loans() {
            return loanCount;
        }

        int addSign(int sign) {
            requireState(pad.length() < SIGNS);
            requireArgument(in(sign, 33, 126));
            pad.append((char) sign);
            return pad.length();
        }

        int read() {
            requireState(contracts < CONTRACTS);
            int terms = countTerms();
            int answer = terms < 0 ? terms : contracts;
            if (terms > 0) {
                for (int i = 0; i < pad.length(); i++) {
                    texts[contracts * SIGNS + i] = pad.charAt(i);
                }
                lengths[contracts] = pad.length();
                termCounts[contracts] = terms;
                contracts++;
            }
            pad.setLength(0);
            return answer;
        }

        /** How many terms the pad has, or -1 less its first wrong place. */
        private int countTerms() {
            int terms = 1;
            int depth = 0;
            int here = 0;
            for (int step = 0; step < SIGNS; step++) {
                for (int turns = 0; turns < MOST_TURNS && behind(pad, here, '!') > 0; turns++) {
                    here++;
                }
                if (depth < MOST_OPEN && behind(pad, here, '(') > 0) {
                    depth++;
                    here++;
                    continue;
                }
                here = behindComparison(here);
                for (int closing = 0; closing < MOST_OPEN && depth > 0 && behind(pad, here, ')') > 0; closing++) {
                    depth--;
                    here++;
                }
                if (here < 0 || here == pad.length() && depth == 0) {
                    return here < 0 ? here : terms;
                }
                if (depth == 0 && terms < MOST_TERMS && behind(pad, here, ';') > 0) {
                    terms++;
                } else if (behind(pad, here, '|') < 0 && behind(pad, here, '&') < 0) {
                    return -1 - here;
                }
                here++;
            }
            return -1 - pad.length();
        }

        private int behindComparison(int from) {
            if (from >= pad.length() || !isName(pad.charAt(from))) {
                return -1 - from;
            }
            int sign = from + 1;
            if (sign >= pad.length() || !in(pad.charAt(sign), '<', '>')) {
                return -1 - sign;
            }
            return behindNumber(pad, sign + 1, DIGITS, 0, MOST_VALUE, false);
        }

        private static boolean isName(char c) {
            return c >= 'a' && c <= 'h' || c == 'y' || c == 'z';
        }

        int many(int contract) {
            requireIndex(isContract(contract));
            return termCounts[contract];
        }

        private void begin(int contract) {
            at = contract * SIGNS;
            end = at + lengths[contract];
        }

        /** The sign that is read next; 0 behind the end. */
        private char next() {
            return at < end ? texts[at] : 0;
        }

        int written(int contract, int i) {
            requireIndex(isContract(contract) && i >= NONE);
            out.setLength(0);
            begin(contract);
            for (int t = 0; t < termCounts[contract]; t++) {
                writeTerm(0);
                out.append(';');
                at++;
            }
            requireIndex(i < out.length());
            return i == NONE ? out.length() : out.charAt(i);
        }

        private void writeTerm(int depth) {
            boolean many = comes('|');
            if (many) {
                out.append('(');
            }
            writePart(depth);
            for (int i = 0; i < SIGNS && next() == '|'; i++) {
                out.append('|');
                at++;
                writePart(depth);
            }
            if (many) {
                out.append(')');
            }
        }

        private void writePart(int depth) {
            boolean many = comes('&');
            if (many) {
                out.append('(');
            }
            writeBit(depth);
            for (int i = 0; i < SIGNS && next() == '&'; i++) {
                out.append('&');
                at++;
                writeBit(depth);
            }
            if (many) {
                out.append(')');
            }
        }

        private void writeBit(int depth) {
            for (int i = 0; i < SIGNS && next() == '!'; i++) {
                out.append('!');
                at++;
            }
            if (next() == '(' && depth < MOST_OPEN) {
                at++;
                writeTerm(depth + 1);
                at++;
                return;
            }
            out.append(next());
            at++;
            out.append(next());
            at++;
            out.append(readNumber());
        }

        private int readNumber() {
            int value = 0;
            for (int i = 0; i < DIGITS && at < end && texts[at] >= '0' && texts[at] <= '9'; i++) {
                value = value * 10 + texts[at] - '0';
                at++;
            }
            return value;
        }

        /** Whether a sign between parts, or between bits, comes before the term, or the part, is at its end. */
        private boolean comes(char sign) {
            int depth = 0;
            for (int i = at; i < end; i++) {
                char c = texts[i];
                if (depth == 0 && (c == sign || c == ')' || c == ';' || c == '|')) {
                    return c == sign;
                }
                depth += c == '(' ? 1 : 0;
                depth -= c == ')' ? 1 : 0;
            }
            return false;
        }

        void setFails(int name, int from, int to) {
            requireIndex(in(name, 0, INPUTS - 1));
            requireArgument(in(from, 0, LAST_HOUR) && in(to, from, LAST_HOUR));
            fails[name * 2] = from;
            fails[name * 2 + 1] = to;
        }

        /** A row of an input; its hours rise, since each hour is fed once. */
        void feed(int name, int hour, int value) {
            if (inputRows[name] < INPUT_ROWS) {
                int row = (name * INPUT_ROWS + inputRows[name]) * 2;
                inputs[row] = hour;
                inputs[row + 1] = Math.max(0, Math.min(MOST_VALUE, value));
                inputRows[name]++;
            }
        }

        boolean mayLend() {
            return loanCount < LOANS;
        }

        int lendOut(int contract, int thing, int from, int to) {
            if (clashesWithLoan(NONE, thing, from, to)) {
                return NONE;
            }
            int loan = loanCount * LOAN;
            loans[loan + THING] = thing;
            loans[loan + CONTRACT] = contract;
            loans[loan + FROM] = from;
            loans[loan + TO] = to;
            loans[loan + ANSWER] = NONE;
            loanCount++;
            return loanCount - 1;
        }

        /** Whether a thing is lent, but for one loan, on some day of a span. */
        private boolean clashesWithLoan(int but, int thing, int from, int to) {
            for (int l = 0; l < loanCount; l++) {
                if (l != but && clashes(l, thing, from, to)) {
                    return true;
                }
            }
            return false;
        }

        private boolean clashes(int loan, int thing, int from, int to) {
            int l = loan * LOAN;
            return loans[l + THING] == thing && loans[l + FROM] <= to && from <= loans[l + TO];
        }

        /** Asks a loan at an hour, and tells what is broken, but what was told and not good since: whether there is any. */
        boolean ask(int loan, int hour) {
            int l = loan * LOAN;
            loans[l + ANSWER] = NONE;
            if (!in(hour / DAY, loans[l + FROM], loans[l + TO])) {
                return false;
            }
            judge(loan, hour);
            loans[l + STILL] &= openTerms | brokenTerms;
            for (int t = 0; t < MOST_TERMS; t++) {
                if (has(brokenTerms & ~loans[l + STILL], t) && loans[l + TOLD] < MOST_TOLD) {
                    int row = (loan * MOST_TOLD + loans[l + TOLD]) * 2;
                    told[row] = hour;
                    told[row + 1] = t;
                    loans[l + TOLD]++;
                }
            }
            loans[l + STILL] |= brokenTerms;
            loans[l + ANSWER] = 1 + nth(brokenTerms, 0);
            return brokenTerms != 0;
        }

        /** Finds which terms of a loan are open, and which are broken, at an hour. */
        private void judge(int loan, int hour) {
            int contract = loans[loan * LOAN + CONTRACT];
            openTerms = 0;
            brokenTerms = 0;
            begin(contract);
            for (int t = 0; t < termCounts[contract]; t++) {
                open = false;
                boolean isTrue = holdsTerm(loan, hour, true, 0);
                openTerms = with(openTerms, t, open);
                brokenTerms = with(brokenTerms, t, !open && !isTrue);
                at++;
            }
        }

        /** Reads on over a term; whether it is true, if it is looked at. */
        private boolean holdsTerm(int loan, int hour, boolean looked, int depth) {
            boolean any = holdsPart(loan, hour, looked, depth);
            for (int i = 0; i < SIGNS && next() == '|'; i++) {
                at++;
                boolean more = holdsPart(loan, hour, looked && !any, depth);
                any = any || more;
            }
            return any;
        }

        private boolean holdsPart(int loan, int hour, boolean looked, int depth) {
            boolean all = holdsBit(loan, hour, looked, depth);
            for (int i = 0; i < SIGNS && next() == '&'; i++) {
                at++;
                boolean more = holdsBit(loan, hour, looked && all, depth);
                all = all && more;
            }
            return all;
        }

        private boolean holdsBit(int loan, int hour, boolean looked, int depth) {
            boolean turned = false;
            for (int i = 0; i < SIGNS && next() == '!'; i++) {
                turned = !turned;
                at++;
            }
            boolean isTrue;
            if (next() == '(' && depth < MOST_OPEN) {
                at++;
                isTrue = holdsTerm(loan, hour, looked, depth + 1);
                at++;
            } else {
                isTrue = compare(loan, hour, looked);
            }
            return isTrue != turned;
        }

        private boolean compare(int loan, int hour, boolean looked) {
            char name = next();
            at++;
            char sign = next();
            at++;
            int number = readNumber();
            int value = looked ? valueOf(loan, hour, name) : 0;
            switch (sign) {
                case '<': return value < number;
                case '>': return value > number;
                default: return value == number;
            }
        }

        /** What a name stands for at an hour; it opens the term if it fails or has no row yet. */
        private int valueOf(int loan, int hour, char name) {
            if (name == 'y') {
                return hour / DAY - loans[loan * LOAN + FROM];
            }
            if (name == 'z') {
                return loans[loan * LOAN + SHIELD];
            }
            int input = name - 'a';
            if (input >= 0 && input < INPUTS && (fails[input * 2] == NONE
                    || hour < fails[input * 2] || hour > fails[input * 2 + 1])) {
                for (int k = inputRows[input] - 1; k >= 0; k--) {
                    int row = (input * INPUT_ROWS + k) * 2;
                    if (inputs[row] <= hour) {
                        return inputs[row + 1];
                    }
                }
            }
            open = true;
            return 0;
        }

        /** What a loan answered when it was asked latest. */
        int answer(int loan) {
            requireIndex(isLoan(loan));
            return loans[loan * LOAN + ANSWER];
        }

        /** Whether a loan of a thing answered so much at least when it was asked latest. */
        boolean hasAnswered(int thing, int least) {
            for (int loan = 0; loan < loanCount; loan++) {
                if (loans[loan * LOAN + THING] == thing && loans[loan * LOAN + ANSWER] >= least) {
                    return true;
                }
            }
            return false;
        }

        boolean shield(int loan, boolean on) {
            requireIndex(isLoan(loan));
            boolean was = loans[loan * LOAN + SHIELD] != 0;
            loans[loan * LOAN + SHIELD] = on ? 1 : 0;
            return was != on;
        }

        int openTerm(int loan, int hour, int k) {
            requireIndex(isLoan(loan) && k >= 0);
            requireArgument(in(hour, 0, LAST_HOUR));
            judge(loan, hour);
            return nth(openTerms, k);
        }

        int toldOf(int loan, int k, int what) {
            requireIndex(isLoan(loan) && k >= NONE && k < loans[loan * LOAN + TOLD] && in(what, 0, 1));
            return k == NONE ? loans[loan * LOAN + TOLD] : told[(loan * MOST_TOLD + k) * 2 + what];
        }

        int extend(int loan, int to, int day) {
            requireIndex(isLoan(loan));
            requireArgument(isDay(to) && isDay(day));
            int l = loan * LOAN;
            if (day > loans[l + TO]) {
                return 1;
            }
            if (to <= loans[l + TO]) {
                return 2;
            }
            if (clashesWithLoan(loan, loans[l + THING], loans[l + FROM], to)) {
                return 3;
            }
            loans[l + TO] = to;
            return 0;
        }

        int request(int thing, int from, int to) {
            requireIndex(in(thing, 0, THINGS - 1));
            requireState(requestCount < REQUESTS);
            requireArgument(isDay(from) && isDay(to) && from <= to);
            requests[requestCount * 3] = thing;
            requests[requestCount * 3 + 1] = from;
            requests[requestCount * 3 + 2] = to;
            requestCount++;
            return requestCount - 1;
        }

        int clash(int k, int which) {
            requireIndex(k >= 0 && in(which, 0, 1));
            int left = k;
            for (int r = 0; r < requestCount; r++) {
                for (int other = r + 1; other < requestCount; other++) {
                    if (requestsClash(r, other)) {
                        if (left == 0) {
                            return which == 0 ? r : other;
                        }
                        left--;
                    }
                }
                for (int l = 0; l < loanCount; l++) {
                    if (clashes(l, requests[r * 3], requests[r * 3 + 1], requests[r * 3 + 2])) {
                        if (left == 0) {
                            return which == 0 ? r : LOAN_NUMBER + l;
                        }
                        left--;
                    }
                }
            }
            return NONE;
        }

        private boolean requestsClash(int r, int other) {
            return requests[r * 3] == requests[other * 3] && requests[r * 3 + 1] <= requests[other * 3 + 2]
                    && requests[other * 3 + 1] <= requests[r * 3 + 2];
        }

        int days(int loan) {
            requireIndex(isLoan(loan));
            return loans[loan * LOAN + TO] - loans[loan * LOAN + FROM] + 1;
        }

        int fee(int loan) {
            requireIndex(isLoan(loan));
            int l = loan * LOAN;
            int unshielded = loans[l + SHIELD] == 0 ? 300 : 0;
            return 5 * days(loan) + 20 * termCounts[loans[l + CONTRACT]] + unshielded + 50 * loans[l + TOLD];
        }

        int letter(int loan, int i) {
            requireIndex(isLoan(loan) && i >= NONE);
            int l = loan * LOAN;
            out.setLength(0);
            out.append('#').append(loan).append('@').append(loans[l + THING]);
            out.append(':').append(loans[l + FROM]).append('-').append(loans[l + TO]).append('=').append(fee(loan));
            for (int k = 0; k < loans[l + TOLD]; k++) {
                out.append('!').append(told[(loan * MOST_TOLD + k) * 2 + 1]);
            }
            requireIndex(i < out.length());
            return i == NONE ? out.length() : out.charAt(i);
        }

        int count(int what) {
            requireIndex(in(what, 0, 4));
            switch (what) {
                case 0: return pad.length();
                case 1: return contracts;
                case 2: return loanCount;
                case 3: return requestCount;
                default: return allInputRows();
            }
        }

        private int allInputRows() {
            int sum = 0;
            for (int i = 0; i < INPUTS; i++) {
                sum += inputRows[i];
            }
            return sum;
        }
    }

    // ------------------------------------------------------------------
    // Rooms
    // ------------------------------------------------------------------

    /** A room: its place and lamp, its climate run by hours, its risks, alarms and sensor. */
    private static final class Room {
        private static final int VOLUME = 1000;
        private static final int SHARE = 1000;
        private static final int LAYERS = 5;
        private static final int CONDUCTANCE = 100;
        private static final int CAPACITY = 1000;
        private static final int FIRST_DEGREES = 20000;
        private static final int FIRST_DAMP = 10000;
        private static final int KILOGRAMS = 1000;
        private static final int GOODS_ROWS = 6;
        private static final int MILLIGRAMS = 10000;
        private static final int KINDS = 4;
        private static final int RATE = 100000;
        private static final int RISK_ROWS = 5;
        private static final int POINTS = 1000;
        private static final int RULES = 4;
        private static final int HOLD = 99;
        private static final int SENSOR = 100000;
        private static final int NO_VALUE = -200000;
        private static final int PLAN_HOURS = 24;
        private static final int PLAN_LEAST = 18000;
        private static final int PLAN_MOST = 22000;
        private static final int PLAN_STEP = 500;
        private static final int PLAN_RATE = 5000;
        /** Books, by kinds: heat, water. */
        private static final int AIR = 0;
        private static final int WALLS = 1;
        private static final int GOODS = 2;
        private static final int VISITORS = 3;
        private static final int MACHINES = 4;
        private static final int BOOKS = 5;
        /** A machine: low, high, rate, told, on. */
        private static final int MACHINE = 5;
        private static final int LOW = 0;
        private static final int HIGH = 1;
        private static final int TAKES = 2;
        private static final int TOLD = 3;
        private static final int ON = 4;
        private static final int WARMER = 0;
        /** A risk: how many rows, points till now, then of each row level and points. */
        private static final int RISK = 2 + 2 * RISK_ROWS;
        /** A rule: kind, level, hold, the set of hours with an alarm. */
        private static final int RULE = 4;
        /** A layer: conductance, capacity, heat. */
        private static final int LAYER = 3;

        final int place;
        int lamp;
        private int volume = 100;
        private int share = 100;
        private long heat = 100 * FIRST_DEGREES;
        private long water = 100 * FIRST_DAMP;
        private int layers;
        private final long[] walls = new long[LAYERS * LAYER];
        private int kilograms;
        private long held;
        private int goodsRows;
        private final int[] goods = new int[GOODS_ROWS * 2];
        private final int[] machines = new int[KINDS * MACHINE];
        private final long[] books = new long[BOOKS * 2];
        private final int[] risks = new int[KINDS * RISK];
        private int ruleCount;
        private final long[] rules = new long[RULES * RULE];
        private int hours;
        /** Of each hour the sensor's value and the right one, and in which hours there are such. */
        private final int[] sensor = new int[HOURS];
        private final int[] right = new int[HOURS];
        private long sensed;
        private long checked;

        Room(int place) {
            this.place = place;
        }

        int degrees() {
            return (int) Math.floorDiv(heat, volume);
        }

        int damp() {
            return (int) Math.floorDiv(water, volume);
        }

        private long layerDegrees(int k) {
            return Math.floorDiv(walls[k * LAYER + 2], walls[k * LAYER + 1]);
        }

        private void book(int kind, long moreHeat, long moreWater) {
            heat += moreHeat;
            water += moreWater;
            books[kind * 2] += moreHeat;
            books[kind * 2 + 1] += moreWater;
        }

        /** An hour with what is outside and so many visitors. */
        void run(int outside, int dampOutside, int visitors) {
            runClimate(outside, dampOutside, visitors);
            for (int kind = 0; kind < KINDS; kind++) {
                risks[kind * RISK + 1] += pointsAt(kind, kind < 2 ? damp() : degrees());
            }
            for (int rule = 0; rule < ruleCount; rule++) {
                watch(rule * RULE);
            }
            hours++;
        }

        private void runClimate(int outside, int dampOutside, int visitors) {
            long heatIn = (long) share * (outside - degrees()) * volume;
            long waterIn = (long) share * (dampOutside - damp()) * volume;
            book(AIR, Math.floorDiv(heatIn, 1000), Math.floorDiv(waterIn, 1000));
            runWalls(outside);
            runGoods();
            book(VISITORS, 100L * visitors, 50L * visitors);
            for (int kind = 0; kind < KINDS; kind++) {
                if (machines[kind * MACHINE + TOLD] != 0) {
                    runMachine(kind);
                }
            }
        }

        private void runWalls(int outside) {
            for (int k = 0; k < layers; k++) {
                long inner = k == 0 ? degrees() : layerDegrees(k - 1);
                long flow = Math.floorDiv(walls[k * LAYER] * (inner - layerDegrees(k)), 100);
                if (k == 0) {
                    book(WALLS, -flow, 0);
                } else {
                    walls[(k - 1) * LAYER + 2] -= flow;
                }
                walls[k * LAYER + 2] += flow;
            }
            if (layers > 0) {
                int last = (layers - 1) * LAYER;
                walls[last + 2] += Math.floorDiv(walls[last] * (outside - layerDegrees(layers - 1)), 100);
            }
        }

        private void runGoods() {
            long taken = Math.min(water, Math.floorDiv(heldAt(damp()) - held, 4));
            held += taken;
            book(GOODS, 0, -taken);
        }

        /** What the goods would hold at a damp in the end. */
        private long heldAt(int damp) {
            for (int row = 0; row < goodsRows; row++) {
                if (goods[row * 2] >= damp || row == goodsRows - 1) {
                    return (long) kilograms * goods[row * 2 + 1];
                }
            }
            return 0;
        }

        /** A warmer and a damper add what is too little, a cooler and a dryer take what is too much. */
        private void runMachine(int kind) {
            int m = kind * MACHINE;
            boolean adds = kind % 2 == 0;
            boolean heats = kind < 2;
            int now = heats ? degrees() : damp();
            if (adds ? now < machines[m + LOW] : now > machines[m + HIGH]) {
                machines[m + ON] = 1;
            } else if (adds ? now > machines[m + HIGH] : now < machines[m + LOW]) {
                machines[m + ON] = 0;
            }
            if (machines[m + ON] != 0) {
                long rate = machines[m + TAKES];
                long change = adds ? rate : heats ? -rate : -Math.min(rate, water);
                book(MACHINES, heats ? change : 0, heats ? 0 : change);
            }
        }

        /** The points of the last row of a risk whose level is not above a value. */
        private int pointsAt(int kind, int value) {
            int points = 0;
            for (int row = 0; row < risks[kind * RISK]; row++) {
                int r = kind * RISK + 2 + row * 2;
                points = risks[r] <= value ? risks[r + 1] : points;
            }
            return points;
        }

        /** Tells an alarm of a rule with this hour, if the hour ends so and its hold is over. */
        private void watch(int r) {
            int value = rules[r] < 2 ? degrees() : damp();
            boolean alarming = rules[r] % 2 == 0 ? value > rules[r + 1] : value < rules[r + 1];
            int latest = NONE;
            for (int h = 0; h < hours && h < HOURS; h++) {
                latest = (rules[r + 3] >> h & 1) != 0 ? h : latest;
            }
            if (alarming && (latest == NONE || hours - latest >= rules[r + 2])) {
                rules[r + 3] |= 1L << hours;
            }
        }

        void setSize(int newVolume, int newShare) {
            requireArgument(in(newVolume, 1, VOLUME) && in(newShare, 0, SHARE));
            volume = newVolume;
            share = newShare;
        }

        int addLayer(int conductance, int capacity) {
            requireState(layers < LAYERS);
            requireArgument(in(conductance, 0, CONDUCTANCE) && in(capacity, 1, CAPACITY));
            walls[layers * LAYER] = conductance;
            walls[layers * LAYER + 1] = capacity;
            walls[layers * LAYER + 2] = (long) capacity * FIRST_DEGREES;
            layers++;
            return layers - 1;
        }

        int setGoods(int newKilograms) {
            requireArgument(in(newKilograms, 0, KILOGRAMS));
            int was = kilograms;
            kilograms = newKilograms;
            return was;
        }

        int addGoodsRow(int damp, int milligrams) {
            requireState(goodsRows < GOODS_ROWS);
            requireArgument(in(damp, 0, DAMP) && in(milligrams, 0, MILLIGRAMS)
                    && (goodsRows == 0 || damp > goods[(goodsRows - 1) * 2]));
            goods[goodsRows * 2] = damp;
            goods[goodsRows * 2 + 1] = milligrams;
            goodsRows++;
            return goodsRows - 1;
        }

        void setMachine(int kind, int low, int high, int rate) {
            requireIndex(in(kind, 0, KINDS - 1));
            requireArgument(low <= high && in(low, -DEGREES, DEGREES) && in(high, -DEGREES, DEGREES) && in(rate, 0, RATE));
            putMachine(kind, low, high, rate);
        }

        private void putMachine(int kind, int low, int high, int rate) {
            int m = kind * MACHINE;
            machines[m + LOW] = low;
            machines[m + HIGH] = high;
            machines[m + TAKES] = rate;
            machines[m + TOLD] = 1;
            machines[m + ON] = 0;
        }

        int layerAt(int k) {
            requireIndex(in(k, 0, layers - 1));
            return (int) layerDegrees(k);
        }

        int held() {
            return (int) held;
        }

        boolean isOn(int kind) {
            requireIndex(in(kind, 0, KINDS - 1));
            return machines[kind * MACHINE + ON] != 0;
        }

        long bookOf(int kind, int what) {
            requireIndex(in(kind, NONE, BOOKS - 1) && in(what, 0, 1));
            if (kind == NONE) {
                return what == 0 ? heat : water;
            }
            return books[kind * 2 + what];
        }

        boolean hasDew(int k) {
            requireIndex(in(k, 0, layers - 1));
            return damp() > Math.max(0, layerDegrees(k));
        }

        int addRisk(int kind, int level, int points) {
            requireIndex(in(kind, 0, KINDS - 1));
            int r = kind * RISK;
            int count = risks[r];
            requireState(count < RISK_ROWS);
            requireArgument(in(level, -DEGREES, DEGREES) && in(points, 0, POINTS)
                    && (count == 0 || level > risks[r + 2 * count]));
            risks[r + 2 + 2 * count] = level;
            risks[r + 3 + 2 * count] = points;
            risks[r]++;
            return count;
        }

        int pointsOf(int kind) {
            requireIndex(in(kind, 0, KINDS - 1));
            return risks[kind * RISK + 1];
        }

        int addRule(int kind, int level, int hold) {
            requireState(ruleCount < RULES);
            requireArgument(in(kind, 0, KINDS - 1) && in(level, -DEGREES, DEGREES) && in(hold, 1, HOLD));
            rules[ruleCount * RULE] = kind;
            rules[ruleCount * RULE + 1] = level;
            rules[ruleCount * RULE + 2] = hold;
            ruleCount++;
            return ruleCount - 1;
        }

        int alarm(int rule, int k) {
            requireIndex(in(rule, 0, ruleCount - 1) && k >= NONE);
            long told = rules[rule * RULE + 3];
            if (k == NONE) {
                return Long.bitCount(told);
            }
            int left = k;
            for (int h = 0; h < hours && h < HOURS; h++) {
                if ((told >> h & 1) != 0) {
                    if (left == 0) {
                        return h;
                    }
                    left--;
                }
            }
            return NONE;
        }

        private boolean isHour(int hour) {
            return hour >= 0 && hour < hours && hour < HOURS;
        }

        private static boolean hasHour(long set, int hour) {
            return (set >> hour & 1) != 0;
        }

        void sense(int hour, int v) {
            requireIndex(isHour(hour));
            requireArgument(in(v, -SENSOR, SENSOR));
            sensor[hour] = v;
            sensed |= 1L << hour;
        }

        void check(int hour, int v) {
            requireIndex(isHour(hour));
            requireState(hasHour(sensed, hour));
            requireArgument(in(v, -SENSOR, SENSOR));
            right[hour] = v;
            checked |= 1L << hour;
        }

        int corrected(int hour) {
            requireIndex(isHour(hour));
            if (!hasHour(sensed, hour)) {
                return NO_VALUE;
            }
            int before = NONE;
            int behind = NONE;
            for (int h = 0; h < hours && h < HOURS; h++) {
                if (hasHour(checked, h)) {
                    before = h <= hour ? h : before;
                    behind = h >= hour && behind == NONE ? h : behind;
                }
            }
            return sensor[hour] + driftBetween(before, behind, hour);
        }

        private int driftBetween(int before, int behind, int hour) {
            if (before == NONE || behind == NONE) {
                int only = Math.max(before, behind);
                return only == NONE ? 0 : right[only] - sensor[only];
            }
            int first = right[before] - sensor[before];
            int second = right[behind] - sensor[behind];
            return before == behind ? first : first + Math.floorDiv((second - first) * (hour - before), behind - before);
        }

        int silentFrom(int from) {
            requireIndex(isHour(from));
            int best = NONE;
            int longest = 0;
            int length = 0;
            for (int h = from; h < hours && h < HOURS; h++) {
                length = hasHour(sensed, h) ? 0 : length + 1;
                if (length > longest) {
                    longest = length;
                    best = h - length + 1;
                }
            }
            return best;
        }

        int plan(int planHours, int outside, int dampOutside) {
            requireArgument(in(planHours, 1, PLAN_HOURS) && in(outside, -DEGREES, DEGREES) && in(dampOutside, 0, DAMP));
            Room copy = new Room(place);
            int best = NONE;
            long least = 0;
            for (int level = PLAN_LEAST; level <= PLAN_MOST; level += PLAN_STEP) {
                copy.become(this);
                boolean told = machines[WARMER * MACHINE + TOLD] != 0;
                copy.putMachine(WARMER, level, level + PLAN_STEP, told ? machines[WARMER * MACHINE + TAKES] : PLAN_RATE);
                long cost = copy.cost(planHours, outside, dampOutside);
                if (best == NONE || cost < least) {
                    best = level;
                    least = cost;
                }
            }
            return best;
        }

        /** Takes over the climate of another room. */
        private void become(Room other) {
            volume = other.volume;
            share = other.share;
            heat = other.heat;
            water = other.water;
            layers = other.layers;
            System.arraycopy(other.walls, 0, walls, 0, walls.length);
            kilograms = other.kilograms;
            held = other.held;
            goodsRows = other.goodsRows;
            System.arraycopy(other.goods, 0, goods, 0, goods.length);
            System.arraycopy(other.machines, 0, machines, 0, machines.length);
        }

        /** Runs so many hours: what the warmer adds, and 100 times how far hours end from where they should. */
        private long cost(int planHours, int outside, int dampOutside) {
            long sum = 0;
            for (int h = 0; h < planHours; h++) {
                runClimate(outside, dampOutside, 0);
                long now = degrees();
                sum += machines[WARMER * MACHINE + ON] != 0 ? machines[WARMER * MACHINE + TAKES] : 0;
                sum += 100 * Math.max(0, Math.max(PLAN_LEAST - now, now - PLAN_MOST));
            }
            return sum;
        }

        int count(int what) {
            requireIndex(in(what, 0, 4));
            switch (what) {
                case 0: return hours;
                case 1: return layers;
                case 2: return goodsRows;
                case 3: return ruleCount;
                default: return Long.bitCount(checked);
            }
        }
    }

    // ------------------------------------------------------------------
    // Methods
    // ------------------------------------------------------------------

    /** Methods of treatment as they were read, objects in parts of materials, steps, stocks, shelves, plans. */
    private static final class Methods {
        private static final int METHODS = 12;
        private static final int GOODS = 12;
        private static final int MATERIALS = 10;
        private static final int PERSONS = 8;
        private static final int SIGNS = 50;
        private static final int CLAUSES = 10;
        private static final int DIGITS = 4;
        private static final int MOST = 9999;
        private static final int PARTS = 8;
        private static final int ROWS = 30;
        private static final int ROW = 4;
        private static final int LAST_HOUR = 1000000;
        private static final int STOCK = 1000000;
        private static final int SHELVES = 6;
        private static final int STEPS = 10;
        private static final int TOO_MANY_STEPS = -2;
        private static final int NO_SECOND = 700;

        private final StringBuilder pad = new StringBuilder();
        private int methods;
        /** Of each method: what it uses of each good, after which ones it comes by at least how many hours (NONE: not). */
        private final int[] uses = new int[METHODS * GOODS];
        private final int[] after = new int[METHODS * METHODS];
        /** Sets of each method: materials that it bars, methods that it may not come behind. */
        private final int[] bars = new int[METHODS];
        private final int[] notBehind = new int[METHODS];
        /** Sets of methods: those that need trials, those that need two persons. */
        private int needTrial;
        private int needTwo;
        private final int[] rights = new int[PERSONS];
        private final int[] trials = new int[METHODS];
        private int objects;
        private final int[] partCounts = new int[OBJECTS];
        private final int[] parts = new int[OBJECTS * PARTS];
        private final int[] rowCounts = new int[OBJECTS];
        private final int[] rows = new int[OBJECTS * ROWS * ROW];
        /** Of each good: stock, what came, what went. */
        private final long[] goods = new long[GOODS * 3];
        private final int[] shelves = new int[GOODS];
        private final int[] apart = new int[GOODS];
        private int planned;
        private final int[] plan = new int[STEPS];

        Methods() {
            Arrays.fill(after, NONE);
            Arrays.fill(shelves, NONE);
        }

        boolean isMethod(int method) {
            return method >= 0 && method < methods;
        }

        private boolean isObject(int object) {
            return object >= 0 && object < objects;
        }

        static boolean isPerson(int person) {
            return person >= 0 && person < PERSONS;
        }

        private static boolean isGood(int good) {
            return good >= 0 && good < GOODS;
        }

        int addSign(int sign) {
            requireState(pad.length() < SIGNS);
            requireArgument(in(sign, 33, 126));
            pad.append((char) sign);
            return pad.length();
        }

        int read() {
            requireState(methods < METHODS);
            int answer = readClauses(false);
            if (answer >= 0) {
                readClauses(true);
                answer = methods;
                methods++;
            }
            pad.setLength(0);
            return answer;
        }

        /** Goes through the pad, and tells its clauses if take is so: 0, or -1 less the first wrong place. */
        private int readClauses(boolean take) {
            int at = 0;
            for (int count = 1; count <= CLAUSES && pad.length() > 0; count++) {
                int end = behindClause(at);
                if (end < 0) {
                    return end;
                }
                if (take) {
                    tellClause(at, end);
                }
                if (end == pad.length()) {
                    return 0;
                }
                at = behind(pad, end, ',');
                if (at < 0 || count == CLAUSES) {
                    return -1 - end;
                }
            }
            return 0;
        }

        private int behindClause(int at) {
            char kind = at < pad.length() ? pad.charAt(at) : 0;
            switch (kind) {
                case 'u': return behindNumber(pad, behind(pad, behindGood(at + 1), '*'), DIGITS, 1, MOST, false);
                case 'b': return behindNumber(pad, at + 1, DIGITS, 0, MATERIALS - 1, false);
                case 'x': return behindMethod(at + 1);
                case 'a': return behindNumber(pad, behind(pad, behindMethod(at + 1), ':'), DIGITS, 0, MOST, false);
                case 't': return at + 1;
                case 'i': return at + 1;
                default: return -1 - at;
            }
        }

        private int behindGood(int at) {
            return behindNumber(pad, at, DIGITS, 0, GOODS - 1, false);
        }

        private int behindMethod(int at) {
            return behindNumber(pad, at, DIGITS, 0, METHODS - 1, false);
        }

        private void tellClause(int at, int end) {
            char kind = pad.charAt(at);
            if (kind == 'u') {
                int goodEnd = behindGood(at + 1);
                uses[methods * GOODS + numberAt(pad, at + 1, goodEnd)] += numberAt(pad, goodEnd + 1, end);
            } else if (kind == 'b') {
                bars[methods] |= 1 << numberAt(pad, at + 1, end);
            } else if (kind == 'x') {
                notBehind[methods] |= 1 << numberAt(pad, at + 1, end);
            } else if (kind == 'a') {
                int methodEnd = behindMethod(at + 1);
                int a = methods * METHODS + numberAt(pad, at + 1, methodEnd);
                after[a] = Math.max(after[a], numberAt(pad, methodEnd + 1, end));
            } else if (kind == 't') {
                needTrial |= 1 << methods;
            } else {
                needTwo |= 1 << methods;
            }
        }

        int usesOf(int method, int good) {
            requireIndex(isMethod(method) && isGood(good));
            return uses[method * GOODS + good];
        }

        void addObject() {
            objects = Math.min(OBJECTS, objects + 1);
        }

        int addPart(int object, int material) {
            requireIndex(isObject(object) && in(material, 0, MATERIALS - 1));
            requireState(partCounts[object] < PARTS);
            parts[object * PARTS + partCounts[object]] = material;
            partCounts[object]++;
            return partCounts[object] - 1;
        }

        boolean setRight(int person, int method, boolean on) {
            requireIndex(isPerson(person) && isMethod(method));
            boolean was = has(rights[person], method);
            rights[person] = with(rights[person], method, on);
            return was != on;
        }

        boolean setTrial(int method, int material, boolean good) {
            requireIndex(isMethod(method) && in(material, 0, MATERIALS - 1));
            boolean was = has(trials[method], material);
            trials[method] = with(trials[method], material, good);
            return was;
        }

        int reasonOf(int object, int method, int person, int hour) {
            requireIndex(isObject(object) && isMethod(method) && isPerson(person));
            requireArgument(in(hour, 0, LAST_HOUR));
            return reason(object, method, person, hour);
        }

        /** Why a step can't be done; 0 if it can. */
        private int reason(int object, int method, int person, int hour) {
            int part = barredPart(object, method);
            if (part != NONE) {
                return 100 + part;
            }
            int done = nth(doneOn(object) & notBehind[method], 0);
            if (done != NONE) {
                return 200 + done;
            }
            int missing = missingBefore(object, method, hour);
            if (missing != NONE) {
                return 300 + missing;
            }
            int untried = has(needTrial, method) ? nth(materialsOf(object) & ~trials[method], 0) : NONE;
            if (untried != NONE) {
                return 400 + untried;
            }
            for (int good = 0; good < GOODS; good++) {
                if (goods[good * 3] < uses[method * GOODS + good]) {
                    return 500 + good;
                }
            }
            return has(rights[person], method) ? 0 : 600;
        }

        private int barredPart(int object, int method) {
            for (int part = 0; part < partCounts[object]; part++) {
                if ((bars[method] >> parts[object * PARTS + part] & 1) != 0) {
                    return part;
                }
            }
            return NONE;
        }

        private int materialsOf(int object) {
            int set = 0;
            for (int part = 0; part < partCounts[object]; part++) {
                set |= 1 << parts[object * PARTS + part];
            }
            return set;
        }

        private int doneOn(int object) {
            int set = 0;
            for (int k = 0; k < rowCounts[object]; k++) {
                set |= 1 << rows[(object * ROWS + k) * ROW];
            }
            return set;
        }

        /** The lowest method that one comes after, and that was not done so many hours before an hour. */
        private int missingBefore(int object, int method, int hour) {
            for (int m = 0; m < METHODS; m++) {
                int hours = after[method * METHODS + m];
                int latest = hours == NONE ? NONE : latestOf(object, m);
                if (hours != NONE && (latest == NONE || hour < latest + hours)) {
                    return m;
                }
            }
            return NONE;
        }

        /** The hour of the latest step of a method on an object; NONE. */
        private int latestOf(int object, int method) {
            int latest = NONE;
            for (int k = 0; k < rowCounts[object]; k++) {
                int at = (object * ROWS + k) * ROW;
                latest = rows[at] == method ? rows[at + 1] : latest;
            }
            return latest;
        }

        boolean mayTreat(int object) {
            return rowCounts[object] < ROWS;
        }

        int doStep(int object, int method, int person, int second, int hour) {
            int reason = reason(object, method, person, hour);
            if (reason != 0) {
                return reason;
            }
            boolean isTwo = has(needTwo, method);
            if (isTwo && (person == second || !has(rights[second], method))) {
                return NO_SECOND;
            }
            for (int good = 0; good < GOODS; good++) {
                goods[good * 3] -= uses[method * GOODS + good];
                goods[good * 3 + 2] += uses[method * GOODS + good];
            }
            int at = (object * ROWS + rowCounts[object]) * ROW;
            rows[at] = method;
            rows[at + 1] = hour;
            rows[at + 2] = person;
            rows[at + 3] = isTwo ? second : NONE;
            rowCounts[object]++;
            return 0;
        }

        int stepsDone(int object) {
            return rowCounts[object];
        }

        int row(int object, int k, int what) {
            requireIndex(isObject(object) && k >= NONE && k < rowCounts[object] && in(what, 0, ROW - 1));
            return k == NONE ? rowCounts[object] : rows[(object * ROWS + k) * ROW + what];
        }

        int changeStock(int good, int change) {
            requireIndex(isGood(good));
            requireArgument(in(change, -STOCK, STOCK));
            long stock = goods[good * 3] + change;
            if (stock < 0 || stock > STOCK) {
                return NONE;
            }
            goods[good * 3] = stock;
            goods[good * 3 + 1] += Math.max(0, change);
            goods[good * 3 + 2] += Math.max(0, -change);
            return (int) stock;
        }

        long about(int good, int what) {
            requireIndex(isGood(good) && in(what, 0, 3));
            return what == 3 ? shelves[good] : goods[good * 3 + what];
        }

        boolean putApart(int a, int b) {
            requireIndex(isGood(a) && isGood(b));
            if (a == b || shelves[a] != NONE && shelves[a] == shelves[b]) {
                return false;
            }
            apart[a] |= 1 << b;
            apart[b] |= 1 << a;
            return true;
        }

        int putOn(int good, int shelf) {
            requireIndex(isGood(good) && in(shelf, NONE, SHELVES - 1));
            for (int other = 0; other < GOODS && shelf != NONE; other++) {
                if (shelves[other] == shelf && has(apart[good], other)) {
                    return 1 + other;
                }
            }
            shelves[good] = shelf;
            return 0;
        }

        int planFor(int object, int set) {
            requireIndex(isObject(object) && (set & ~((1 << methods) - 1)) == 0);
            int done = doneOn(object);
            int todo = withAllBefore(set) & ~done;
            if (Integer.bitCount(todo) > STEPS) {
                return TOO_MANY_STEPS;
            }
            int order = order(object, todo, done, false);
            if (order != NONE) {
                order(object, todo, done, true);
                planned = order;
            }
            return order;
        }

        /** A set of methods with all after which they come, over any others. */
        private int withAllBefore(int set) {
            int all = set;
            for (int pass = 0; pass < METHODS; pass++) {
                for (int m = 0; m < METHODS; m++) {
                    all |= has(all, m) ? before(m) : 0;
                }
            }
            return all;
        }

        /** Those after which a method comes. */
        private int before(int method) {
            int set = 0;
            for (int m = 0; m < METHODS; m++) {
                set |= after[method * METHODS + m] != NONE ? 1 << m : 0;
            }
            return set;
        }

        /** Puts methods in the first order that may be, each time the lowest that may come: how many; NONE without one. */
        private int order(int object, int todo, int done, boolean take) {
            int left = todo;
            int past = done;
            for (int count = 0; count < STEPS && left != 0; count++) {
                int next = nextStep(object, left, past);
                if (next == NONE) {
                    return NONE;
                }
                if (take) {
                    plan[count] = next;
                }
                left &= ~(1 << next);
                past |= 1 << next;
            }
            return Integer.bitCount(todo);
        }

        private int nextStep(int object, int left, int past) {
            for (int m = 0; m < METHODS; m++) {
                if (has(left, m) && mayComeNext(object, m, left, past)) {
                    return m;
                }
            }
            return NONE;
        }

        /**
         * Whether a method is there, bars no part, comes behind all that it has to, behind none that it may not,
         * and ahead of all that are left and may not come behind it.
         */
        private boolean mayComeNext(int object, int method, int left, int past) {
            if (!isMethod(method) || barredPart(object, method) != NONE) {
                return false;
            }
            if ((before(method) & ~past) != 0 || (notBehind[method] & past) != 0) {
                return false;
            }
            for (int other = 0; other < METHODS; other++) {
                if (other != method && has(left, other) && has(notBehind[other], method)) {
                    return false;
                }
            }
            return true;
        }

        int step(int k) {
            requireIndex(in(k, 0, planned - 1));
            return plan[k];
        }

        int count(int what) {
            requireIndex(in(what, 0, 4));
            switch (what) {
                case 0: return pad.length();
                case 1: return methods;
                case 2: return objects;
                case 3: return allRows();
                default: return planned;
            }
        }

        private int allRows() {
            int sum = 0;
            for (int object = 0; object < objects; object++) {
                sum += rowCounts[object];
            }
            return sum;
        }
    }

    // ------------------------------------------------------------------
    // Claims
    // ------------------------------------------------------------------

    /** Claims that rest on sources and on one another, opinions, what is agreed, quotes and citations. */
    private static final class Claims {
        private static final int SIGNS = 60;
        private static final int MOST_SIGN = 127;
        private static final int SOURCES = 24;
        private static final int SOURCE_KINDS = 26;
        private static final int CLAIMS = 24;
        private static final int PERSONS = 32;
        private static final int VALUES = 100;
        private static final int RANKS = 10;
        private static final int OPINIONS = 300;
        private static final int FORMS = 4;
        private static final int MOST = 0;
        private static final int RANK = 1;
        private static final int ALL = 2;
        private static final int TIE = -2;
        /** An opinion: person, claim, value, day, rank. */
        private static final int OPINION = 5;
        private static final int VALUE_OF = 2;
        private static final int DAY_OF = 3;
        private static final int RANK_OF = 4;

        private final StringBuilder pad = new StringBuilder();
        private int sources;
        /** Of each source: kind, day, from when it is withdrawn or NONE; and its text. */
        private final int[] sourceRows = new int[SOURCES * 3];
        private final char[] texts = new char[SOURCES * SIGNS];
        private final int[] textLengths = new int[SOURCES];
        private int claims;
        /** Sets of each claim: sources and claims on which it rests. */
        private final int[] onSources = new int[CLAIMS];
        private final int[] onClaims = new int[CLAIMS];
        private final int[] rules = new int[CLAIMS];
        private final int[] ring = new int[CLAIMS];
        private int ringLength;
        private int opinionCount;
        private final int[] opinions = new int[OPINIONS * OPINION];
        /** Of each person where the opinion that is known stands, for the claim and day that were asked for; NONE. */
        private final int[] known = new int[PERSONS];
        private final char[] forms = new char[FORMS * SIGNS];
        private final int[] formLengths = new int[FORMS];
        private final StringBuilder out = new StringBuilder();

        boolean isClaim(int claim) {
            return claim >= 0 && claim < claims;
        }

        private boolean isSource(int source) {
            return source >= 0 && source < sources;
        }

        int addSign(int sign) {
            requireArgument(in(sign, 1, MOST_SIGN));
            requireState(pad.length() < SIGNS);
            pad.append((char) sign);
            return pad.length();
        }

        int clear() {
            int was = pad.length();
            pad.setLength(0);
            return was;
        }

        /** Puts the pad's signs into texts from a place on, and empties it: how many they are. */
        private int movePad(char[] to, int at) {
            int length = pad.length();
            for (int i = 0; i < length; i++) {
                to[at + i] = pad.charAt(i);
            }
            pad.setLength(0);
            return length;
        }

        int addSource(int kind, int day) {
            requireArgument(in(kind, 0, SOURCE_KINDS - 1) && isDay(day));
            requireState(sources < SOURCES);
            sourceRows[sources * 3] = kind;
            sourceRows[sources * 3 + 1] = day;
            sourceRows[sources * 3 + 2] = NONE;
            textLengths[sources] = movePad(texts, sources * SIGNS);
            sources++;
            return sources - 1;
        }

        int addClaim() {
            requireState(claims < CLAIMS);
            claims++;
            return claims - 1;
        }

        boolean rest(int claim, int source, boolean on) {
            requireElement(isClaim(claim) && isSource(source));
            boolean was = has(onSources[claim], source);
            onSources[claim] = with(onSources[claim], source, on);
            return was != on;
        }

        int restOn(int claim, int other) {
            requireElement(isClaim(claim) && isClaim(other));
            int told = onClaims[claim];
            if (has(told, other)) {
                return 0;
            }
            onClaims[claim] = with(told, other, true);
            int length = findRing(onClaims, claim, ring);
            if (length > 0) {
                ringLength = length;
                onClaims[claim] = told;
                return NONE;
            }
            return 1;
        }

        int ringPlace(int k) {
            requireElement(k >= 0);
            return k < ringLength ? ring[k] : NONE;
        }

        boolean lift(int claim, int other) {
            requireElement(isClaim(claim) && isClaim(other));
            boolean did = has(onClaims[claim], other);
            onClaims[claim] = with(onClaims[claim], other, false);
            return did;
        }

        int withdraw(int source, int day) {
            requireElement(isSource(source));
            requireArgument(day == NONE || isDay(day));
            int was = sourceRows[source * 3 + 2];
            sourceRows[source * 3 + 2] = day;
            return was;
        }

        int addOpinion(int person, int claim, int v, int day, int rank) {
            requireElement(in(person, 0, PERSONS - 1) && isClaim(claim));
            requireArgument(in(v, 0, VALUES - 1) && isDay(day) && in(rank, 0, RANKS - 1));
            int place = placeOf(person, claim, day);
            requireState(place < OPINIONS);
            int at = place * OPINION;
            opinions[at] = person;
            opinions[at + 1] = claim;
            opinions[at + VALUE_OF] = v;
            opinions[at + DAY_OF] = day;
            opinions[at + RANK_OF] = rank;
            opinionCount = Math.max(opinionCount, place + 1);
            int count = 0;
            for (int o = 0; o < opinionCount; o++) {
                count += opinions[o * OPINION + 1] == claim ? 1 : 0;
            }
            return count;
        }

        /** Where an opinion of a person on a claim and day stands, or would stand: behind all others. */
        private int placeOf(int person, int claim, int day) {
            for (int o = 0; o < opinionCount; o++) {
                int at = o * OPINION;
                if (opinions[at] == person && opinions[at + 1] == claim && opinions[at + DAY_OF] == day) {
                    return o;
                }
            }
            return opinionCount;
        }

        int setRule(int claim, int kind) {
            requireElement(isClaim(claim));
            requireArgument(in(kind, MOST, ALL));
            int was = rules[claim];
            rules[claim] = kind;
            return was;
        }

        /** The set of claims that are held on a day, if one source more (or NONE) were withdrawn by then. */
        private int heldOn(int day, int without) {
            int good = 0;
            for (int s = 0; s < sources; s++) {
                int withdrawn = sourceRows[s * 3 + 2];
                boolean stands = sourceRows[s * 3 + 1] <= day && (withdrawn == NONE || withdrawn > day);
                good |= stands && s != without ? 1 << s : 0;
            }
            int held = 0;
            for (int pass = 0; pass <= claims; pass++) {
                for (int c = 0; c < claims; c++) {
                    held |= (onSources[c] & good) != 0 || (onClaims[c] & held) != 0 ? 1 << c : 0;
                }
            }
            return held;
        }

        boolean isHeld(int claim, int day) {
            requireElement(isClaim(claim));
            requireArgument(isDay(day));
            return has(heldOn(day, NONE), claim);
        }

        int opened(int source, int day, int k) {
            requireElement(isSource(source) && k >= 0);
            requireArgument(isDay(day));
            return nth(heldOn(day, NONE) & ~heldOn(day, source), k);
        }

        /** Finds which opinions of a claim are known on a day: whether there is any. */
        private boolean learn(int claim, int day) {
            Arrays.fill(known, NONE);
            boolean any = false;
            for (int o = 0; o < opinionCount; o++) {
                int at = o * OPINION;
                if (opinions[at + 1] == claim && opinions[at + DAY_OF] <= day) {
                    int best = known[opinions[at]];
                    if (best == NONE || opinions[at + DAY_OF] > opinions[best + DAY_OF]) {
                        known[opinions[at]] = at;
                    }
                    any = true;
                }
            }
            return any;
        }

        int agreed(int claim, int day) {
            requireElement(isClaim(claim));
            requireArgument(isDay(day));
            boolean any = learn(claim, day);
            if (!any || !has(heldOn(day, NONE), claim)) {
                return NONE;
            }
            int agreed = NONE;
            for (int p = 0; p < PERSONS; p++) {
                if (known[p] != NONE && decides(rules[claim], known[p])) {
                    int v = opinions[known[p] + VALUE_OF];
                    agreed = agreed == NONE || agreed == v ? v : TIE;
                }
            }
            return agreed;
        }

        /** Whether no other known opinion goes ahead of one by a rule. */
        private boolean decides(int rule, int at) {
            for (int p = 0; p < PERSONS && rule != ALL; p++) {
                int other = known[p];
                if (other == NONE) {
                    continue;
                }
                if (rule == MOST && personsWith(other) > personsWith(at)) {
                    return false;
                }
                int ranks = opinions[other + RANK_OF] - opinions[at + RANK_OF];
                if (rule == RANK && (ranks > 0 || ranks == 0 && opinions[other + DAY_OF] > opinions[at + DAY_OF])) {
                    return false;
                }
            }
            return true;
        }

        private int personsWith(int at) {
            int count = 0;
            for (int p = 0; p < PERSONS; p++) {
                count += known[p] != NONE && opinions[known[p] + VALUE_OF] == opinions[at + VALUE_OF] ? 1 : 0;
            }
            return count;
        }

        int dissent(int claim, int day, int k) {
            requireElement(isClaim(claim) && k >= 0);
            requireArgument(isDay(day));
            int agreed = agreed(claim, day);
            int set = 0;
            for (int p = 0; p < PERSONS; p++) {
                if (known[p] != NONE && opinions[known[p] + VALUE_OF] != agreed) {
                    set |= 1 << p;
                }
            }
            return nth(set, k);
        }

        int quote(int source, int at) {
            requireElement(isSource(source) && in(at, 0, textLengths[source]));
            for (int i = 0; i < pad.length(); i++) {
                if (at + i >= textLengths[source] || texts[source * SIGNS + at + i] != pad.charAt(i)) {
                    return i + 1;
                }
            }
            return 0;
        }

        int setForm(int k) {
            requireElement(in(k, 0, FORMS - 1));
            formLengths[k] = movePad(forms, k * SIGNS);
            return formLengths[k];
        }

        int cite(int source, int form, int i) {
            requireElement(isSource(source) && in(form, 0, FORMS - 1) && i >= NONE);
            out.setLength(0);
            for (int k = 0; k < formLengths[form]; k++) {
                char sign = forms[form * SIGNS + k];
                switch (sign) {
                    case '#': out.append(source); break;
                    case '@': out.append(sourceRows[source * 3 + 1]); break;
                    case '$': out.append((char) ('a' + sourceRows[source * 3])); break;
                    default: out.append(sign); break;
                }
            }
            requireElement(i < out.length());
            return i == NONE ? out.length() : out.charAt(i);
        }

        int count(int what) {
            requireArgument(in(what, 0, 4));
            switch (what) {
                case 0: return pad.length();
                case 1: return sources;
                case 2: return claims;
                case 3: return opinionCount;
                default: return restingPairs();
            }
        }

        private int restingPairs() {
            int count = 0;
            for (int c = 0; c < claims; c++) {
                count += Integer.bitCount(onClaims[c]);
            }
            return count;
        }
    }

    // ------------------------------------------------------------------
    // Rights
    // ------------------------------------------------------------------

    /** Rights to look at records: rules, embargoes, agreements, looks that are kept, exports, requests. */
    private static final class Rights {
        private static final int ABSENT = 0;
        private static final int MASKED = 1;
        private static final int SHOWN = 2;
        private static final int PERSONS = 12;
        private static final int ROLES = 8;
        private static final int KINDS = 4;
        private static final int COMMUNITIES = 8;
        private static final int FIELDS = 6;
        private static final int PURPOSES = 4;
        private static final int EXPORT = 3;
        private static final int FREE_ROLE = 7;
        private static final int SIGNS = 40;
        private static final int RULES = 20;
        private static final int AGREEMENTS = 40;
        private static final int LOOKS = 100;
        private static final int LOOK = 6;
        private static final int REQUESTS = 60;
        private static final int FIRST_LIMIT = 3;
        private static final int WINDOW = 30;
        private static final int MASK = 1000;
        /**
         * A rule: its answer, the roles that a person must have and must not have, and the sets of kinds, fields,
         * purposes, communities (COMMUNITIES: none) and whether there is an agreement (1) or not (0), that it suits.
         */
        private static final int RULE = 8;
        private static final int ANSWER = 0;
        private static final int ROLES_HAD = 1;
        private static final int ROLES_NOT_HAD = 2;
        private static final int OF_KINDS = 3;
        private static final int OF_FIELDS = 4;
        private static final int OF_PURPOSES = 5;
        private static final int OF_COMMUNITIES = 6;
        private static final int BY_AGREEMENT = 7;

        private final StringBuilder pad = new StringBuilder();
        private int rules;
        private int toldRules;
        private final int[] ruleRows = new int[RULES * RULE];
        private int persons;
        private final int[] roles = new int[PERSONS];
        private final int[] limits = new int[PERSONS];
        private int records;
        private final int[] kinds = new int[OBJECTS];
        private final int[] communities = new int[OBJECTS];
        private final int[] embargoes = new int[OBJECTS];
        /** Person, record, from, to. */
        private int agreementCount;
        private final int[] agreements = new int[AGREEMENTS * 4];
        /** Person, record, field, purpose, day, answer. */
        private int lookCount;
        private final int[] looks = new int[LOOKS * LOOK];
        /** Person, day. */
        private int requestCount;
        private final int[] requests = new int[REQUESTS * 2];
        private int exported;
        private boolean looked;
        private int got;

        boolean isPerson(int person) {
            return person >= 0 && person < persons;
        }

        private boolean isRecord(int record) {
            return record >= 0 && record < records;
        }

        static boolean isField(int field) {
            return field >= 0 && field < FIELDS;
        }

        static boolean isPurpose(int purpose) {
            return purpose >= 0 && purpose < PURPOSES;
        }

        static boolean isKind(int kind) {
            return kind >= 0 && kind < KINDS;
        }

        static boolean isCommunity(int community) {
            return community >= 0 && community < COMMUNITIES;
        }

        void addRecord(int kind, int community) {
            if (records < OBJECTS) {
                kinds[records] = kind;
                communities[records] = community == NONE ? COMMUNITIES : community;
                embargoes[records] = NONE;
                records++;
            }
        }

        int addSigns(int a, int b, int c, int d) {
            int count = signsOf(a) + signsOf(b) + signsOf(c) + signsOf(d);
            requireState(pad.length() + count <= SIGNS);
            append(a);
            append(b);
            append(c);
            append(d);
            return pad.length();
        }

        private static int signsOf(int four) {
            int count = 0;
            for (int i = 0; i < 4; i++) {
                count += (four >> 8 * i & 255) != 0 ? 1 : 0;
            }
            return count;
        }

        private void append(int four) {
            for (int i = 0; i < 4; i++) {
                int sign = four >> 8 * i & 255;
                if (sign != 0) {
                    pad.append((char) sign);
                }
            }
        }

        int addRule() {
            requireState(rules < RULES);
            int answer = readRule();
            if (answer >= 0) {
                toldRules |= 1 << rules;
                answer = rules;
                rules++;
            }
            pad.setLength(0);
            return answer;
        }

        /** Reads the pad as the next rule: 0, or -1 less the first place at which it is no beginning of a rule. */
        private int readRule() {
            int r = rules * RULE;
            int answer = answerOf(signAt(0));
            if (answer == NONE) {
                return -1;
            }
            beginRule(r, answer);
            int at = 1;
            for (int i = 0; i < SIGNS && at < pad.length(); i++) {
                int letter = behind(pad, at, ' ');
                boolean turned = behind(pad, letter, '!') > 0;
                letter += turned ? 1 : 0;
                if (letter < 0) {
                    return letter;
                }
                boolean isAgreement = signAt(letter) == 'g';
                int end = isAgreement ? letter + 1 : behindDigit(letter);
                if (end < 0) {
                    return end;
                }
                tellCondition(r, signAt(letter), isAgreement ? 1 : signAt(letter + 1) - '0', turned);
                at = end;
            }
            return 0;
        }

        private char signAt(int i) {
            return i >= 0 && i < pad.length() ? pad.charAt(i) : 0;
        }

        private static int answerOf(char sign) {
            switch (sign) {
                case 's': return SHOWN;
                case 'm': return MASKED;
                case 'a': return ABSENT;
                default: return NONE;
            }
        }

        private void beginRule(int r, int answer) {
            ruleRows[r + ANSWER] = answer;
            ruleRows[r + ROLES_HAD] = 0;
            ruleRows[r + ROLES_NOT_HAD] = 0;
            for (int i = OF_KINDS; i < RULE; i++) {
                ruleRows[r + i] = -1;
            }
        }

        /** The place behind a letter that stands for something numbered, and its digit. */
        private int behindDigit(int letter) {
            int count = countOf(signAt(letter));
            if (count == 0) {
                return -1 - letter;
            }
            int digit = signAt(letter + 1) - '0';
            return in(digit, 0, count - 1) ? letter + 2 : -2 - letter;
        }

        /** How many there are of what a letter stands for; 0: it stands for nothing. */
        private static int countOf(char letter) {
            switch (letter) {
                case 'r': return ROLES;
                case 'k': return KINDS;
                case 'f': return FIELDS;
                case 'p': return PURPOSES;
                case 'c': return COMMUNITIES;
                default: return 0;
            }
        }

        private void tellCondition(int r, char letter, int number, boolean turned) {
            int suits = turned ? ~(1 << number) : 1 << number;
            switch (letter) {
                case 'r': ruleRows[r + (turned ? ROLES_NOT_HAD : ROLES_HAD)] |= 1 << number; break;
                case 'k': ruleRows[r + OF_KINDS] &= suits; break;
                case 'f': ruleRows[r + OF_FIELDS] &= suits; break;
                case 'p': ruleRows[r + OF_PURPOSES] &= suits; break;
                case 'c': ruleRows[r + OF_COMMUNITIES] &= suits; break;
                default: ruleRows[r + BY_AGREEMENT] &= suits; break;
            }
        }

        boolean drop(int rule) {
            requireElement(in(rule, 0, rules - 1));
            boolean was = has(toldRules, rule);
            toldRules = with(toldRules, rule, false);
            return was;
        }

        int addPerson(int set) {
            requireArgument(in(set, 0, (1 << ROLES) - 1));
            requireState(persons < PERSONS);
            roles[persons] = set;
            limits[persons] = FIRST_LIMIT;
            persons++;
            return persons - 1;
        }

        int embargo(int record, int until) {
            requireElement(isRecord(record));
            requireArgument(until == NONE || isDay(until));
            int was = embargoes[record];
            embargoes[record] = until;
            return was;
        }

        int addAgreement(int person, int record, int from, int to) {
            requireElement(isPerson(person) && isRecord(record));
            requireArgument(isDay(from) && isDay(to) && from <= to);
            requireState(agreementCount < AGREEMENTS);
            agreements[agreementCount * 4] = person;
            agreements[agreementCount * 4 + 1] = record;
            agreements[agreementCount * 4 + 2] = from;
            agreements[agreementCount * 4 + 3] = to;
            agreementCount++;
            return agreementCount;
        }

        private boolean isAgreed(int person, int record, int day) {
            for (int a = 0; a < agreementCount; a++) {
                if (agreements[a * 4] == person && agreements[a * 4 + 1] == record
                        && in(day, agreements[a * 4 + 2], agreements[a * 4 + 3])) {
                    return true;
                }
            }
            return false;
        }

        private boolean isEmbargoed(int person, int record, int day) {
            return day <= embargoes[record] && !has(roles[person], FREE_ROLE);
        }

        /** The set of told rules that suit a person, a record and a day. */
        private int rulesFor(int person, int record, int day) {
            int agreed = isAgreed(person, record, day) ? 1 : 0;
            int set = 0;
            for (int rule = 0; rule < rules; rule++) {
                int r = rule * RULE;
                boolean suits = (ruleRows[r + ROLES_HAD] & ~roles[person]) == 0
                        && (ruleRows[r + ROLES_NOT_HAD] & roles[person]) == 0
                        && has(ruleRows[r + OF_KINDS], kinds[record])
                        && has(ruleRows[r + OF_COMMUNITIES], communities[record])
                        && has(ruleRows[r + BY_AGREEMENT], agreed);
                set = with(set, rule, suits);
            }
            return set & toldRules;
        }

        /** Those of a set of rules that suit a field and a purpose. */
        private int rulesOn(int set, int field, int purpose) {
            int suiting = set;
            for (int rule = 0; rule < rules; rule++) {
                int r = rule * RULE;
                if (!has(ruleRows[r + OF_FIELDS], field) || !has(ruleRows[r + OF_PURPOSES], purpose)) {
                    suiting &= ~(1 << rule);
                }
            }
            return suiting;
        }

        /** What rules that all suit say together. */
        private int say(int suiting) {
            int answer = ABSENT;
            for (int rule = 0; rule < rules; rule++) {
                if (has(suiting, rule)) {
                    answer = ruleRows[rule * RULE + ANSWER];
                    if (answer == ABSENT) {
                        return ABSENT;
                    }
                }
            }
            return answer;
        }

        private int gets(int person, int record, int field, int purpose, int day) {
            if (isEmbargoed(person, record, day)) {
                return ABSENT;
            }
            return say(rulesOn(rulesFor(person, record, day), field, purpose));
        }

        /** Looks at a field that has a value; what is got is kept. */
        int lookAt(int person, int record, int field, int purpose, int day, int value) {
            int answer = gets(person, record, field, purpose, day);
            looked = true;
            got = answer == ABSENT ? 0 : answer == MASKED ? value / MASK * MASK : value;
            if (answer != ABSENT && lookCount < LOOKS) {
                int at = lookCount * LOOK;
                looks[at] = person;
                looks[at + 1] = record;
                looks[at + 2] = field;
                looks[at + 3] = purpose;
                looks[at + 4] = day;
                looks[at + 5] = answer;
                lookCount++;
            }
            return answer;
        }

        long shownLatest() {
            requireState(looked);
            return got;
        }

        int keptLook(int k, int what) {
            requireElement(in(k, 0, lookCount - 1) && in(what, 0, LOOK - 1));
            return looks[k * LOOK + what];
        }

        int lookedAt(int record, int k) {
            requireElement(isRecord(record) && k >= 0);
            int set = 0;
            for (int l = 0; l < lookCount; l++) {
                if (looks[l * LOOK + 1] == record) {
                    set |= 1 << looks[l * LOOK];
                }
            }
            return nth(set, k);
        }

        int export(int person, int day) {
            requireElement(isPerson(person));
            requireArgument(isDay(day));
            exported = 0;
            for (int record = 0; record < records; record++) {
                boolean whole = true;
                for (int field = 0; field < FIELDS && whole; field++) {
                    whole = gets(person, record, field, EXPORT, day) != ABSENT;
                }
                exported = with(exported, record, whole);
            }
            return Integer.bitCount(exported);
        }

        int exportedRecord(int k) {
            requireElement(k >= 0 && k < Integer.bitCount(exported));
            return nth(exported, k);
        }

        int request(int person, int record, int day) {
            requireElement(isPerson(person) && isRecord(record));
            requireArgument(isDay(day));
            requireState(requestCount < REQUESTS);
            int count = 1;
            for (int q = 0; q < requestCount; q++) {
                count += requests[q * 2] == person && in(requests[q * 2 + 1], day - WINDOW + 1, day) ? 1 : 0;
            }
            if (count > limits[person]) {
                return NONE;
            }
            requests[requestCount * 2] = person;
            requests[requestCount * 2 + 1] = day;
            requestCount++;
            return count;
        }

        int limit(int person, int most) {
            requireElement(isPerson(person));
            requireArgument(in(most, 0, REQUESTS));
            int was = limits[person];
            limits[person] = most;
            return was;
        }

        int idle(int day) {
            requireArgument(isDay(day));
            int left = toldRules;
            for (int person = 0; person < persons; person++) {
                for (int record = 0; record < records && left != 0; record++) {
                    if (!isEmbargoed(person, record, day)) {
                        left &= ~neededFor(rulesFor(person, record, day));
                    }
                }
            }
            return nth(left, 0);
        }

        /** Those of a set of rules without which some field for some purpose would be answered otherwise. */
        private int neededFor(int set) {
            int needed = 0;
            for (int field = 0; field < FIELDS; field++) {
                for (int purpose = 0; purpose < PURPOSES; purpose++) {
                    int suiting = rulesOn(set, field, purpose);
                    int answer = say(suiting);
                    for (int rule = 0; rule < rules; rule++) {
                        if (has(suiting & ~needed, rule) && say(suiting & ~(1 << rule)) != answer) {
                            needed |= 1 << rule;
                        }
                    }
                }
            }
            return needed;
        }

        int count(int what) {
            requireArgument(in(what, 0, 6));
            switch (what) {
                case 0: return pad.length();
                case 1: return rules;
                case 2: return Integer.bitCount(toldRules);
                case 3: return persons;
                case 4: return records;
                case 5: return lookCount;
                default: return requestCount;
            }
        }
    }

    // ------------------------------------------------------------------
    // Tickets
    // ------------------------------------------------------------------

    /** Tickets for slots of time, as many as the odds allow; prices, codes, readers, and who is inside. */
    private static final class Tickets {
        private static final int SLOTS = 8;
        private static final int PLACES = 20;
        private static final int OVER = 8;
        private static final int GUESTS = PLACES + OVER;
        private static final int MOST_BELOW = 16;
        private static final int MOST_RISK = 1000;
        private static final int ODDS_DIGITS = 40;
        private static final int TICKETS = 60;
        private static final int GROUP = 9;
        private static final int KINDS = 5;
        private static final int WAITING = 30;
        private static final int SIGNS = 60;
        private static final int CLAUSES = 8;
        private static final int DIGITS = 5;
        private static final int PRICE = 99999;
        private static final int PERCENT = 100;
        private static final int READERS = 6;
        private static final int LAST_SECOND = 100000;
        private static final int SLOT_SECONDS = 3600;
        private static final int LATE = 900;
        private static final int CODES = 100000;
        private static final int CODE_DIGITS = 6;
        /** A slot: places, above, below, risk above, risk below, its most. */
        private static final int SLOT = 6;
        private static final int MOST = 5;
        /** A ticket: slot, guests, kind, given back, the second when its guests went out or NONE. */
        private static final int TICKET = 5;
        private static final int BACK = 3;
        private static final int OUT = 4;
        /** A request: slot, guests, kind, the ticket that it got or NONE. */
        private static final int REQUEST = 4;

        private int slots;
        private final int[] slotRows = new int[SLOTS * SLOT];
        private int tickets;
        private final int[] ticketRows = new int[TICKETS * TICKET];
        private int requests;
        private final int[] requestRows = new int[WAITING * REQUEST];
        private final StringBuilder text = new StringBuilder();
        private int clauses;
        private final int[] prices = new int[KINDS];
        /** Of each least group the greatest percentage. */
        private final int[] off = new int[GROUP + 1];
        /** When each reader let each ticket in, or NONE; and what of this was known when they were joined latest. */
        private final int[] letIn = new int[TICKETS * READERS];
        private final int[] joined = new int[TICKETS * READERS];
        /** What counts for so many of the guests coming, for all numbers of them; and sums of these. */
        private final long[] ways = new long[(GUESTS + 1) * LIMBS];
        private final long[] odds = new long[LIMBS];
        private final long[] all = new long[LIMBS];
        private final long[] borne = new long[LIMBS];

        Tickets() {
            Arrays.fill(letIn, NONE);
            Arrays.fill(joined, NONE);
        }

        private boolean isSlot(int slot) {
            return slot >= 0 && slot < slots;
        }

        private boolean isTicket(int ticket) {
            return ticket >= 0 && ticket < tickets;
        }

        int addSlot(int places) {
            requireState(slots < SLOTS);
            requireArgument(in(places, 1, PLACES));
            slotRows[slots * SLOT] = places;
            slots++;
            setOver(slots - 1, 1, 1, 0, 1);
            return slots - 1;
        }

        void tellOver(int slot, int above, int below, int riskAbove, int riskBelow) {
            requireIndex(isSlot(slot));
            requireArgument(in(below, 1, MOST_BELOW) && in(above, 0, below));
            requireArgument(in(riskBelow, 1, MOST_RISK) && in(riskAbove, 0, riskBelow));
            setOver(slot, above, below, riskAbove, riskBelow);
        }

        private void setOver(int slot, int above, int below, int riskAbove, int riskBelow) {
            int s = slot * SLOT;
            slotRows[s + 1] = above;
            slotRows[s + 2] = below;
            slotRows[s + 3] = riskAbove;
            slotRows[s + 4] = riskBelow;
            slotRows[s + MOST] = findMost(slot);
        }

        private int findMost(int slot) {
            int s = slot * SLOT;
            int places = slotRows[s];
            for (int n = places + 1; n <= places + OVER; n++) {
                findOdds(slot, n);
                setGreat(borne, 0, 0);
                addGreat(borne, 0, all, 0, slotRows[s + 3]);
                multiplyGreat(odds, 0, slotRows[s + 4]);
                if (compareGreats(odds, 0, borne, 0) > 0) {
                    return n - 1;
                }
            }
            return places + OVER;
        }

        /** Finds the odds that more than the places come of n guests, and all that stands below them. */
        private void findOdds(int slot, int n) {
            int s = slot * SLOT;
            int come = slotRows[s + 1];
            int stay = slotRows[s + 2] - come;
            setGreat(all, 0, 1);
            for (int j = 0; j <= n; j++) {
                setGreat(ways, j * LIMBS, j == 0 ? 1 : 0);
            }
            for (int guest = 1; guest <= n; guest++) {
                multiplyGreat(all, 0, slotRows[s + 2]);
                for (int j = guest; j > 0; j--) {
                    multiplyGreat(ways, j * LIMBS, stay);
                    addGreat(ways, j * LIMBS, ways, (j - 1) * LIMBS, come);
                }
                multiplyGreat(ways, 0, stay);
            }
            setGreat(odds, 0, 0);
            for (int j = slotRows[s] + 1; j <= n; j++) {
                addGreat(odds, 0, ways, j * LIMBS, 1);
            }
        }

        int mostOf(int slot) {
            requireIndex(isSlot(slot));
            return slotRows[slot * SLOT + MOST];
        }

        int oddsDigit(int slot, int n, int k) {
            requireIndex(isSlot(slot) && in(k, 0, ODDS_DIGITS - 1));
            requireArgument(in(n, 0, GUESTS));
            findOdds(slot, n);
            return digitOfGreat(odds, 0, k);
        }

        private int soldOf(int slot) {
            int sum = 0;
            for (int t = 0; t < tickets; t++) {
                int at = t * TICKET;
                sum += ticketRows[at] == slot && ticketRows[at + BACK] == 0 ? ticketRows[at + 1] : 0;
            }
            return sum;
        }

        /** A ticket, if the slot has room for it and there are not too many: its number; else NONE. */
        private int addTicket(int slot, int n, int kind) {
            if (tickets >= TICKETS || soldOf(slot) + n > slotRows[slot * SLOT + MOST]) {
                return NONE;
            }
            int at = tickets * TICKET;
            ticketRows[at] = slot;
            ticketRows[at + 1] = n;
            ticketRows[at + 2] = kind;
            ticketRows[at + OUT] = NONE;
            tickets++;
            return tickets - 1;
        }

        int sell(int slot, int n, int kind) {
            requireIndex(isSlot(slot) && in(kind, 0, KINDS - 1));
            requireState(tickets < TICKETS);
            requireArgument(in(n, 1, GROUP));
            return addTicket(slot, n, kind);
        }

        int giveBack(int ticket) {
            requireIndex(isTicket(ticket));
            int at = ticket * TICKET;
            if (ticketRows[at + BACK] != 0 || firstIn(letIn, ticket) != NONE) {
                return NONE;
            }
            ticketRows[at + BACK] = 1;
            int count = 0;
            for (int q = 0; q < requests; q++) {
                int r = q * REQUEST;
                if (requestRows[r] == ticketRows[at] && requestRows[r + 3] == NONE) {
                    requestRows[r + 3] = addTicket(requestRows[r], requestRows[r + 1], requestRows[r + 2]);
                    count += requestRows[r + 3] != NONE ? 1 : 0;
                }
            }
            return count;
        }

        int addRequest(int slot, int n, int kind) {
            requireIndex(isSlot(slot) && in(kind, 0, KINDS - 1));
            requireState(requests < WAITING);
            requireArgument(in(n, 1, GROUP));
            requestRows[requests * REQUEST] = slot;
            requestRows[requests * REQUEST + 1] = n;
            requestRows[requests * REQUEST + 2] = kind;
            requestRows[requests * REQUEST + 3] = NONE;
            requests++;
            return requests - 1;
        }

        int given(int request) {
            requireIndex(in(request, 0, requests - 1));
            return requestRows[request * REQUEST + 3];
        }

        int addSign(int sign) {
            requireState(text.length() < SIGNS);
            requireArgument(in(sign, 33, 126));
            text.append((char) sign);
            return text.length();
        }

        int readRules() {
            int answer = readClauses(false);
            if (answer >= 0) {
                Arrays.fill(prices, 0);
                Arrays.fill(off, 0);
                readClauses(true);
                clauses = answer;
            }
            text.setLength(0);
            return answer;
        }

        /** Goes through the text, and tells its clauses if take is so: how many, or -1 less the first wrong place. */
        private int readClauses(boolean take) {
            int at = 0;
            for (int count = 1; count <= CLAUSES && text.length() > 0; count++) {
                int end = behindClause(at);
                if (end < 0) {
                    return end;
                }
                if (take) {
                    tellClause(at, end);
                }
                if (end == text.length()) {
                    return count;
                }
                at = behind(text, end, ',');
                if (at < 0 || count == CLAUSES) {
                    return -1 - end;
                }
            }
            return 0;
        }

        private int behindClause(int at) {
            char first = at < text.length() ? text.charAt(at) : 0;
            if (first >= '0' && first < '0' + KINDS) {
                return behindNumber(text, behind(text, at + 1, '='), DIGITS, 0, PRICE, false);
            }
            if (first == 'g') {
                return behindNumber(text, behind(text, behindGroup(at + 1), '-'), DIGITS, 0, PERCENT, false);
            }
            return -1 - at;
        }

        private int behindGroup(int at) {
            return behindNumber(text, at, DIGITS, 1, GROUP, false);
        }

        private void tellClause(int at, int end) {
            char first = text.charAt(at);
            if (first == 'g') {
                int groupEnd = behindGroup(at + 1);
                int group = numberAt(text, at + 1, groupEnd);
                off[group] = Math.max(off[group], numberAt(text, groupEnd + 1, end));
            } else {
                prices[first - '0'] = numberAt(text, at + 2, end);
            }
        }

        int price(int ticket) {
            requireIndex(isTicket(ticket));
            int guests = ticketRows[ticket * TICKET + 1];
            int whole = guests * prices[ticketRows[ticket * TICKET + 2]];
            int percent = 0;
            for (int group = 1; group <= guests; group++) {
                percent = Math.max(percent, off[group]);
            }
            return whole - whole * percent / PERCENT;
        }

        int about(int ticket, int what) {
            requireIndex(isTicket(ticket) && in(what, 0, BACK));
            return ticketRows[ticket * TICKET + what];
        }

        int codeDigit(int ticket, int i) {
            requireIndex(isTicket(ticket) && in(i, 0, CODE_DIGITS - 1));
            int code = codeOf(ticket);
            for (int k = CODE_DIGITS - 1; k > i; k--) {
                code /= 10;
            }
            return code % 10;
        }

        private int codeOf(int ticket) {
            int five = (7919 * ticket + 31 * ticketRows[ticket * TICKET] + 12345) % CODES;
            int sum = 3 * (five / 10000) + 7 * (five / 1000 % 10) + five / 100 % 10 + 3 * (five / 10 % 10) + 7 * (five % 10);
            return five * 10 + (10 - sum % 10) % 10;
        }

        int whose(int code) {
            for (int t = 0; t < tickets; t++) {
                if (codeOf(t) == code) {
                    return t;
                }
            }
            return NONE;
        }

        int letIn(int reader, int ticket, int second) {
            requireIndex(in(reader, 0, READERS - 1) && isTicket(ticket));
            requireArgument(in(second, 0, LAST_SECOND));
            int at = ticket * READERS + reader;
            int start = ticketRows[ticket * TICKET] * SLOT_SECONDS;
            if (letIn[at] != NONE) {
                return 0;
            }
            if (ticketRows[ticket * TICKET + BACK] != 0) {
                return 2;
            }
            if (second < start) {
                return 3;
            }
            if (second > start + LATE) {
                return 4;
            }
            letIn[at] = second;
            return 1;
        }

        /** The first second at which some reader let a ticket in; NONE. */
        private int firstIn(int[] seconds, int ticket) {
            int first = NONE;
            for (int reader = 0; reader < READERS; reader++) {
                int second = seconds[ticket * READERS + reader];
                if (second != NONE && (first == NONE || second < first)) {
                    first = second;
                }
            }
            return first;
        }

        int join() {
            System.arraycopy(letIn, 0, joined, 0, joined.length);
            int doubles = 0;
            for (int t = 0; t < tickets; t++) {
                doubles += doublesOf(t);
            }
            return doubles;
        }

        private int doublesOf(int ticket) {
            int count = 0;
            for (int reader = 0; reader < READERS; reader++) {
                count += joined[ticket * READERS + reader] != NONE ? 1 : 0;
            }
            return Math.max(0, count - 1);
        }

        int twice(int k, int what) {
            requireIndex(k >= 0 && in(what, 0, 2));
            int left = k;
            for (int t = 0; t < tickets; t++) {
                int count = doublesOf(t);
                if (left < count) {
                    int reader = readerOf(t, left + 1);
                    return what == 0 ? t : what == 1 ? reader : joined[t * READERS + reader];
                }
                left -= count;
            }
            requireIndex(false);
            return NONE;
        }

        /** The reader that let a ticket in behind so many others, by seconds, of equal ones by numbers. */
        private int readerOf(int ticket, int others) {
            for (int reader = 0; reader < READERS; reader++) {
                int second = joined[ticket * READERS + reader];
                int ahead = 0;
                for (int other = 0; other < READERS; other++) {
                    int at = joined[ticket * READERS + other];
                    ahead += at != NONE && (at < second || at == second && other < reader) ? 1 : 0;
                }
                if (second != NONE && ahead == others) {
                    return reader;
                }
            }
            return 0;
        }

        boolean leaves(int ticket, int second) {
            requireIndex(isTicket(ticket));
            requireArgument(in(second, 0, LAST_SECOND));
            int first = firstIn(joined, ticket);
            boolean goes = first != NONE && first <= second && ticketRows[ticket * TICKET + OUT] == NONE;
            if (goes) {
                ticketRows[ticket * TICKET + OUT] = second;
            }
            return goes;
        }

        int insideAt(int second) {
            requireArgument(in(second, 0, LAST_SECOND));
            int sum = 0;
            for (int t = 0; t < tickets; t++) {
                int first = firstIn(joined, t);
                int out = ticketRows[t * TICKET + OUT];
                if (first != NONE && first <= second && (out == NONE || out > second)) {
                    sum += ticketRows[t * TICKET + 1];
                }
            }
            return sum;
        }

        int count(int what) {
            requireIndex(in(what, 0, 4));
            switch (what) {
                case 0: return slots;
                case 1: return tickets;
                case 2: return waiting();
                case 3: return clauses;
                default: return text.length();
            }
        }

        private int waiting() {
            int count = 0;
            for (int q = 0; q < requests; q++) {
                count += requestRows[q * REQUEST + 3] == NONE ? 1 : 0;
            }
            return count;
        }
    }
}
