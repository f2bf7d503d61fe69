/**
 * A hall of drawers: each holds one thing, a stone, a gem, a lamp, a row of such, a shelf of rows, readings,
 * or nothing. The promises are in shared/DOC.md.
 *
 * All rows are made in the constructor and used again, so that no call makes an object. A thing is its number:
 * its form, its amount and its cells stand in arrays under that number.
 */
public final class DrawerHall {
    public static final int UNKNOWN = -1, OUTSIDE = -2, FULL = -4, NONE = -5, FINDING = -20;

    private static final int STONE = 1, GEM = 2, PEARL = 3, FOSSIL = 4, LAMP = 5;
    private static final int INTS = 6, LONGS = 7, BYTES = 8, INT_SHEET = 9, LONG_SHEET = 10;
    private static final int STONES = 11, GEMS = 12, PEARLS = 13, FOSSILS = 14, LAMPS = 15, SHINERS = 16;
    private static final int STONE_SHELF = 17, GEM_SHELF = 18, SHINER_SHELF = 19;
    private static final int SHINER = 20;

    private static final int NO_FINDING = 0, NOTHING = 1, BEYOND = 2, CAST = 3, STORE = 4, SIZE = 5;

    private static final int DRAWERS = 16;
    private static final int MOST_THINGS = 120;
    private static final int MOST_WEIGHT = 999;
    private static final int MOST_PLACES = 12;
    private static final int MOST_SHEET_ROWS = 6;
    private static final int MOST_SHEET_PLACES = 6;
    private static final int WITHOUT_ROWS = 9;

    private static final int NO_LABEL = 0;
    private static final int[] LABEL_ORDER = {
        PEARL, GEM, FOSSIL, STONE, SHINER, BYTES, LONGS, INTS, LONG_SHEET, INT_SHEET,
        PEARLS, GEMS, LAMPS, SHINERS, FOSSILS, STONES, GEM_SHELF, SHINER_SHELF, STONE_SHELF
    };

    private final int[] forms;
    /** The weight of a single thing, the number of places of a row. */
    private final int[] amounts;
    /** MOST_PLACES for each thing: numbers in a row of numbers, else the numbers of things, or NONE. */
    private final long[] cells;
    private final int[] drawers;
    private final int[] findings;
    private int things;

    public DrawerHall() {
        forms = new int[MOST_THINGS];
        amounts = new int[MOST_THINGS];
        cells = new long[MOST_THINGS * MOST_PLACES];
        drawers = new int[DRAWERS];
        findings = new int[SIZE + 1];
        things = 0;
        fill(drawers, NONE);
    }

    public int thing(int form, int weight) {
        if (form < STONE || form > LAMP || weight < 0 || weight > MOST_WEIGHT) {
            return OUTSIDE;
        }
        if (!hasRoomFor(1)) {
            return FULL;
        }
        return make(form, weight);
    }

    public int row(int form, int n) {
        if (!isRowOfNumbers(form) && !isRowOfSingles(form) || n > MOST_PLACES) {
            return OUTSIDE;
        }
        if (!hasRoomFor(1)) {
            return FULL;
        }
        if (n < 0) {
            return found(SIZE);
        }
        return make(form, n);
    }

    public int sheet(int form, int n, int m) {
        if (!isSheet(form) && !isShelf(form) || n > MOST_SHEET_ROWS || m > MOST_SHEET_PLACES && m != WITHOUT_ROWS) {
            return OUTSIDE;
        }
        int rows = m == WITHOUT_ROWS ? 0 : n;
        if (!hasRoomFor(1 + rows)) {
            return FULL;
        }
        if (n < 0 || m < 0) {
            return found(SIZE);
        }
        int made = make(form, n);
        for (int i = 0; i < rows; i++) {
            setCell(made, i, make(pieceKind(form), m));
        }
        return made;
    }

    public int keep(int drawer, int thing) {
        if (!isDrawer(drawer) || thing != NONE && !isThing(thing)) {
            return UNKNOWN;
        }
        int before = inDrawer(drawer);
        setDrawer(drawer, thing);
        return before;
    }

    public int held(int drawer) {
        return isDrawer(drawer) ? inDrawer(drawer) : UNKNOWN;
    }

    public int is(int drawer, int kind) {
        if (!isDrawer(drawer)) {
            return UNKNOWN;
        }
        if (!isKind(kind)) {
            return OUTSIDE;
        }
        return thingIs(inDrawer(drawer), kind) ? 1 : 0;
    }

    public int label(int drawer) {
        if (!isDrawer(drawer)) {
            return UNKNOWN;
        }
        int asked = inDrawer(drawer);
        for (int kind : LABEL_ORDER) {
            if (thingIs(asked, kind)) {
                return kind;
            }
        }
        return NO_LABEL;
    }

    public int weight(int drawer) {
        if (!isDrawer(drawer)) {
            return UNKNOWN;
        }
        int asked = inDrawer(drawer);
        int finding = findingOfAsking(asked, STONE);
        return finding == NO_FINDING ? amountOf(asked) : found(finding);
    }

    public int light(int drawer) {
        if (!isDrawer(drawer)) {
            return UNKNOWN;
        }
        int asked = inDrawer(drawer);
        int finding = findingOfAsking(asked, SHINER);
        return finding == NO_FINDING ? lightOf(asked) : found(finding);
    }

    public int size(int drawer, int kind) {
        if (!isDrawer(drawer)) {
            return UNKNOWN;
        }
        if (!isRow(kind)) {
            return OUTSIDE;
        }
        int asked = inDrawer(drawer);
        int finding = findingOfAsking(asked, kind);
        return finding == NO_FINDING ? amountOf(asked) : found(finding);
    }

    public int put(int drawer, int kind, int i, long v) {
        if (!isDrawer(drawer)) {
            return UNKNOWN;
        }
        if (!isRowOfNumbers(kind)) {
            return OUTSIDE;
        }
        int asked = inDrawer(drawer);
        int finding = findingOfPlace(asked, kind, i);
        if (finding != NO_FINDING) {
            return found(finding);
        }
        setCell(asked, i, lowestBits(kind, v));
        return 1;
    }

    public long number(int drawer, int kind, int i) throws ClassCastException, NullPointerException, ArrayIndexOutOfBoundsException {
        if (!isDrawer(drawer) || !isRowOfNumbers(kind)) {
            return 0;
        }
        int asked = inDrawer(drawer);
        switch (findingOfPlace(asked, kind, i)) {
            case CAST:
                throw new ClassCastException("not of the kind");
            case NOTHING:
                throw new NullPointerException("nothing is held");
            case BEYOND:
                throw new ArrayIndexOutOfBoundsException("no such place");
            default:
                return cell(asked, i);
        }
    }

    public int lay(int drawer, int kind, int i, int from) {
        if (!isDrawer(drawer) || !isDrawer(from)) {
            return UNKNOWN;
        }
        if (!isRowOfThings(kind)) {
            return OUTSIDE;
        }
        int asked = inDrawer(drawer);
        int laid = inDrawer(from);
        if (!passesFor(asked, kind) || !passesFor(laid, pieceKind(kind))) {
            return found(CAST);
        }
        int finding = findingOfPlace(asked, kind, i);
        if (finding != NO_FINDING) {
            return found(finding);
        }
        if (!takes(asked, laid)) {
            return found(STORE);
        }
        setCell(asked, i, laid);
        return 1;
    }

    public int piece(int drawer, int kind, int i) {
        if (!isDrawer(drawer)) {
            return UNKNOWN;
        }
        if (!isRowOfThings(kind)) {
            return OUTSIDE;
        }
        int asked = inDrawer(drawer);
        int finding = findingOfPlace(asked, kind, i);
        return finding == NO_FINDING ? pieceAt(asked, i) : found(finding);
    }

    public int pick(int drawer, int kind, int i, int to) {
        if (!isDrawer(drawer) || !isDrawer(to)) {
            return UNKNOWN;
        }
        if (!isRowOfThings(kind)) {
            return OUTSIDE;
        }
        int asked = inDrawer(drawer);
        int finding = findingOfPlace(asked, kind, i);
        if (finding != NO_FINDING) {
            return found(finding);
        }
        int picked = pieceAt(asked, i);
        setCell(asked, i, NONE);
        setDrawer(to, picked);
        return picked;
    }

    public int move(int from, int a, int to, int b, int n) {
        if (!isDrawer(from) || !isDrawer(to)) {
            return UNKNOWN;
        }
        int source = inDrawer(from);
        int target = inDrawer(to);
        int finding = findingOfMove(source, a, target, b, n);
        if (finding == NO_FINDING) {
            finding = carry(source, a, target, b, n);
        }
        return finding == NO_FINDING ? 1 : found(finding);
    }

    public int shine(int drawer, int kind) {
        if (!isDrawer(drawer)) {
            return UNKNOWN;
        }
        if (!isRowOfSingles(kind)) {
            return OUTSIDE;
        }
        int asked = inDrawer(drawer);
        int finding = findingOfAsking(asked, kind);
        if (finding != NO_FINDING) {
            return found(finding);
        }
        int sum = 0;
        int places = amountOf(asked);
        for (int i = 0; i < places; i++) {
            sum += lightOf(pieceAt(asked, i));
        }
        return sum;
    }

    public int many(int kind) {
        if (!isKind(kind)) {
            return OUTSIDE;
        }
        int sum = 0;
        for (int i = 0; i < DRAWERS; i++) {
            if (thingIs(inDrawer(i), kind)) {
                sum++;
            }
        }
        return sum;
    }

    public int count(int what) {
        if (what == 0) {
            return things;
        }
        if (what == 1) {
            return drawersInUse();
        }
        int finding = what - 1;
        return what > 1 && finding < findings.length ? findings[finding] : OUTSIDE;
    }

    public int clear() {
        int before = things;
        things = 0;
        fill(drawers, NONE);
        fill(findings, 0);
        return before;
    }

    private static void fill(int[] numbers, int with) {
        for (int i = 0; i < numbers.length; i++) {
            numbers[i] = with;
        }
    }

    // Kinds and forms.

    private static boolean isKind(int kind) {
        return kind >= STONE && kind <= SHINER;
    }

    private static boolean isRow(int kind) {
        return kind >= INTS && kind <= SHINER_SHELF;
    }

    private static boolean isRowOfNumbers(int kind) {
        return kind >= INTS && kind <= BYTES;
    }

    private static boolean isRowOfThings(int kind) {
        return isRow(kind) && !isRowOfNumbers(kind);
    }

    private static boolean isSheet(int kind) {
        return kind == INT_SHEET || kind == LONG_SHEET;
    }

    private static boolean isRowOfSingles(int kind) {
        return kind >= STONES && kind <= SHINERS;
    }

    private static boolean isShelf(int kind) {
        return kind >= STONE_SHELF && kind <= SHINER_SHELF;
    }

    /** What a row of things is a row of; 0 where that is no kind. */
    private static int pieceKind(int rowKind) {
        switch (rowKind) {
            case INT_SHEET: return INTS;
            case LONG_SHEET: return LONGS;
            case STONES: return STONE;
            case GEMS: return GEM;
            case PEARLS: return PEARL;
            case FOSSILS: return FOSSIL;
            case LAMPS: return LAMP;
            case SHINERS: return SHINER;
            case STONE_SHELF: return STONES;
            case GEM_SHELF: return GEMS;
            case SHINER_SHELF: return SHINERS;
            default: return 0;
        }
    }

    /** Sheets stay out of the descent into pieces: they are nothing but themselves. */
    private static boolean formIs(int form, int kind) {
        int part = form;
        int asked = kind;
        if (isShelf(part) && isShelf(asked)) {
            part = pieceKind(part);
            asked = pieceKind(asked);
        }
        if (isRowOfSingles(part) && isRowOfSingles(asked)) {
            part = pieceKind(part);
            asked = pieceKind(asked);
        }
        return singleIs(part, asked);
    }

    private static boolean singleIs(int form, int kind) {
        if (form == kind) {
            return true;
        }
        switch (form) {
            case GEM: return kind == STONE || kind == SHINER;
            case PEARL: return kind == STONE || kind == GEM || kind == SHINER;
            case FOSSIL: return kind == STONE;
            case LAMP: return kind == SHINER;
            default: return false;
        }
    }

    private static long lowestBits(int rowKind, long v) {
        switch (rowKind) {
            case INTS: return (int) v;
            case BYTES: return (byte) v;
            default: return v;
        }
    }

    // Things. Each of these answers for every number, so that no caller can reach past an array.

    private boolean isThing(int thing) {
        return thing >= 0 && thing < things;
    }

    /** A row count below 0 makes the needed room less than 1: such a sheet meets SIZE and not FULL. */
    private boolean hasRoomFor(int more) {
        return things + more <= MOST_THINGS;
    }

    private int make(int form, int amount) {
        int made = things;
        if (made < 0 || made >= forms.length || made >= amounts.length) {
            return NONE;
        }
        things++;
        forms[made] = form;
        amounts[made] = amount;
        long blank = isRowOfThings(form) ? NONE : 0;
        for (int i = 0; i < MOST_PLACES; i++) {
            setCell(made, i, blank);
        }
        return made;
    }

    private int formOf(int thing) {
        return isThing(thing) && thing < forms.length ? forms[thing] : 0;
    }

    private int amountOf(int thing) {
        return isThing(thing) && thing < amounts.length ? amounts[thing] : 0;
    }

    private int lightOf(int thing) {
        switch (formOf(thing)) {
            case GEM: return amountOf(thing) % 10 + 1;
            case PEARL: return amountOf(thing) % 10 + 1 + 5;
            case LAMP: return 2 * amountOf(thing);
            default: return 0;
        }
    }

    /** Nothing is of no kind: its form, 0, is none. */
    private boolean thingIs(int thing, int kind) {
        return isKind(kind) && formIs(formOf(thing), kind);
    }

    private boolean passesFor(int thing, int kind) {
        return thing == NONE || thingIs(thing, kind);
    }

    /** A row refuses by its own form, whatever wider kind it was taken as. */
    private boolean takes(int row, int thing) {
        return thing == NONE || thingIs(thing, pieceKind(formOf(row)));
    }

    // Cells.

    private static boolean isCell(int thing, int i) {
        return thing >= 0 && thing < MOST_THINGS && i >= 0 && i < MOST_PLACES;
    }

    private long cell(int thing, int i) {
        return isCell(thing, i) ? cells[thing * MOST_PLACES + i] : 0;
    }

    private int pieceAt(int row, int i) {
        return isCell(row, i) ? (int) cell(row, i) : NONE;
    }

    private void setCell(int thing, int i, long v) {
        if (isCell(thing, i)) {
            cells[thing * MOST_PLACES + i] = v;
        }
    }

    // Drawers.

    private static boolean isDrawer(int drawer) {
        return drawer >= 0 && drawer < DRAWERS;
    }

    private int inDrawer(int drawer) {
        return isDrawer(drawer) ? drawers[drawer] : NONE;
    }

    private void setDrawer(int drawer, int thing) {
        if (isDrawer(drawer)) {
            drawers[drawer] = thing;
        }
    }

    private int drawersInUse() {
        int sum = 0;
        for (int i = 0; i < DRAWERS; i++) {
            if (inDrawer(i) != NONE) {
                sum++;
            }
        }
        return sum;
    }

    // Findings: the ..Of.. ones only look, so that number() can ask them without being counted.

    private int found(int finding) {
        if (finding >= 0 && finding < findings.length) {
            findings[finding]++;
        }
        return FINDING - finding;
    }

    private int findingOfAsking(int thing, int kind) {
        if (thing == NONE) {
            return NOTHING;
        }
        return thingIs(thing, kind) ? NO_FINDING : CAST;
    }

    private int findingOfPlace(int thing, int kind, int i) {
        int finding = findingOfAsking(thing, kind);
        if (finding != NO_FINDING) {
            return finding;
        }
        return i >= 0 && i < amountOf(thing) ? NO_FINDING : BEYOND;
    }

    private int findingOfMove(int source, int a, int target, int b, int n) {
        if (source == NONE || target == NONE) {
            return NOTHING;
        }
        if (!areRowsAlike(formOf(source), formOf(target))) {
            return STORE;
        }
        return isStretch(source, a, n) && isStretch(target, b, n) ? NO_FINDING : BEYOND;
    }

    private static boolean areRowsAlike(int form, int other) {
        return isRowOfThings(form) && isRowOfThings(other) || isRowOfNumbers(form) && form == other;
    }

    /** The sum start + n could wrap round; the difference can't, as n is not below 0 there. */
    private boolean isStretch(int row, int start, int n) {
        return start >= 0 && n >= 0 && start <= amountOf(row) - n;
    }

    /**
     * Within one row a move on to later places begins at its end, which comes to the same as taking all pieces first;
     * a row never refuses its own pieces, so that the order shows nowhere else.
     */
    private int carry(int source, int a, int target, int b, int n) {
        boolean fromEnd = source == target && a < b;
        boolean ofThings = isRowOfThings(formOf(target));
        for (int step = 0; step < n; step++) {
            int k = fromEnd ? n - 1 - step : step;
            if (ofThings && !takes(target, pieceAt(source, a + k))) {
                return STORE;
            }
            setCell(target, b + k, cell(source, a + k));
        }
        return NO_FINDING;
    }
}
