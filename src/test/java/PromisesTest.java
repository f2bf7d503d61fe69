/** Promise by promise: ordinary inputs, the edges that the document names, and wrong inputs. */
public final class PromisesTest {
    private static final int UNKNOWN = -1, OUTSIDE = -2, FULL = -4, NONE = -5;
    private static final int NOTHING = -21, BEYOND = -22, CAST = -23, STORE = -24, SIZE = -25;
    private static final int LEAST = Integer.MIN_VALUE, GREATEST = Integer.MAX_VALUE;

    private static final Due DUE = new Due();
    private static String part = "";

    public static void main(String[] args) {
        newObject();
        thing();
        row();
        sheet();
        keepAndHeld();
        is();
        label();
        weight();
        light();
        size();
        putAndNumber();
        lay();
        layIntoSheetsAndShelves();
        piece();
        pick();
        movedPieces();
        movedNumbers();
        moveRefused();
        moveInPart();
        shine();
        many();
        count();
        clear();
        unknownAheadOfOutside();
        DUE.end();
    }

    private static void due(String call, long got, long want) {
        DUE.same(part + ": " + call, got, want);
    }

    private static void dueNumber(DrawerHall hall, int drawer, int kind, int i, String want) {
        DUE.same(part + ": number(" + drawer + ", " + kind + ", " + i + ")", Due.number(hall, drawer, kind, i), want);
    }

    /** Makes a thing and keeps it in the drawer. */
    private static void keepThing(DrawerHall hall, int drawer, int form, int weight) {
        hall.keep(drawer, hall.thing(form, weight));
    }

    private static void keepRow(DrawerHall hall, int drawer, int form, int n) {
        hall.keep(drawer, hall.row(form, n));
    }

    private static void keepSheet(DrawerHall hall, int drawer, int form, int n, int m) {
        hall.keep(drawer, hall.sheet(form, n, m));
    }

    /** Drawers 0 to 4: things 0 to 4, a stone of 7, a gem of 13, a pearl of 25, a fossil of 40, a lamp of 6. */
    private static DrawerHall withSingles() {
        DrawerHall hall = new DrawerHall();
        int[] weights = {7, 13, 25, 40, 6};
        for (int i = 0; i < weights.length; i++) {
            keepThing(hall, i, 1 + i, weights[i]);
        }
        return hall;
    }

    /** As withSingles, and rows of 3 places of the forms 11 to 16 in drawers 5 to 10: things 5 to 10. */
    private static DrawerHall withRows() {
        DrawerHall hall = withSingles();
        for (int form = 11; form <= 16; form++) {
            keepRow(hall, form - 6, form, 3);
        }
        return hall;
    }

    /** Each form once, thing and drawer form - 1 up to 16; 17 to 19 come without rows and in no drawer. */
    private static DrawerHall withAllForms() {
        DrawerHall hall = withSingles();
        for (int form = 6; form <= 16; form++) {
            if (form == 9 || form == 10) {
                hall.sheet(form, 2, 9);
            } else {
                hall.row(form, 2);
            }
        }
        for (int form = 17; form <= 19; form++) {
            hall.sheet(form, 2, 9);
        }
        return hall;
    }

    private static DrawerHall withThings(int many) {
        DrawerHall hall = new DrawerHall();
        for (int i = 0; i < many; i++) {
            hall.thing(1, i);
        }
        return hall;
    }

    private static void dueFindings(DrawerHall hall, int nothing, int beyond, int cast) {
        due("how often NOTHING", hall.count(2), nothing);
        due("how often BEYOND", hall.count(3), beyond);
        due("how often CAST", hall.count(4), cast);
    }

    private static void newObject() {
        part = "new";
        DrawerHall hall = new DrawerHall();
        for (int drawer = 0; drawer < 16; drawer++) {
            due("held(" + drawer + ")", hall.held(drawer), NONE);
        }
        for (int what = 0; what <= 6; what++) {
            due("count(" + what + ")", hall.count(what), 0);
        }
    }

    private static void thing() {
        part = "thing";
        DrawerHall hall = new DrawerHall();
        due("form 0", hall.thing(0, 1), OUTSIDE);
        due("form 6", hall.thing(6, 1), OUTSIDE);
        due("form 20", hall.thing(20, 1), OUTSIDE);
        due("weight -1", hall.thing(1, -1), OUTSIDE);
        due("weight 1000", hall.thing(1, 1000), OUTSIDE);
        due("nothing made", hall.count(0), 0);
        for (int form = 1; form <= 5; form++) {
            due("form " + form, hall.thing(form, 0), form - 1);
        }
        due("weight 999", hall.thing(1, 999), 5);
        hall.keep(0, 5);
        due("its weight", hall.weight(0), 999);
        hall = withThings(119);
        due("the last one", hall.thing(5, 1), 119);
        due("full", hall.thing(5, 1), FULL);
        due("OUTSIDE comes ahead", hall.thing(5, 1000), OUTSIDE);
        due("120 stand", hall.count(0), 120);
    }

    private static void row() {
        part = "row";
        DrawerHall hall = new DrawerHall();
        int[] wrong = {LEAST, 0, 1, 5, 9, 10, 17, 19, 20, GREATEST};
        for (int form : wrong) {
            due("form " + form, hall.row(form, 1), OUTSIDE);
        }
        due("13 places", hall.row(6, 13), OUTSIDE);
        due("most places", hall.row(6, GREATEST), OUTSIDE);
        due("-1 places", hall.row(6, -1), SIZE);
        due("least places", hall.row(16, LEAST), SIZE);
        due("SIZE of a wrong form", hall.row(9, -1), OUTSIDE);
        due("SIZE twice", hall.count(6), 2);
        due("nothing made", hall.count(0), 0);
        int[] forms = {6, 7, 8, 11, 12, 13, 14, 15, 16};
        for (int i = 0; i < forms.length; i++) {
            due("form " + forms[i], hall.row(forms[i], 12), i);
            hall.keep(i, i);
            due("places", hall.size(i, forms[i]), 12);
            if (forms[i] < 9) {
                dueNumber(hall, i, forms[i], 11, "0");
            } else {
                due("piece", hall.piece(i, forms[i], 11), NONE);
            }
        }
        due("no place", hall.row(11, 0), 9);
        hall = withThings(119);
        due("SIZE with room", hall.row(6, -1), SIZE);
        due("the last one", hall.row(6, 0), 119);
        due("FULL comes ahead of SIZE", hall.row(6, -1), FULL);
        due("OUTSIDE comes ahead of FULL", hall.row(6, 13), OUTSIDE);
        due("SIZE once", hall.count(6), 1);
    }

    private static void sheet() {
        part = "sheet";
        DrawerHall hall = new DrawerHall();
        int[] wrong = {LEAST, 0, 1, 8, 11, 16, 20, GREATEST};
        for (int form : wrong) {
            due("form " + form, hall.sheet(form, 1, 1), OUTSIDE);
        }
        int[] above = {7, 8, 10, GREATEST};
        for (int m : above) {
            due("m " + m, hall.sheet(9, 1, m), OUTSIDE);
        }
        due("n 7", hall.sheet(9, 7, 1), OUTSIDE);
        due("n 7, m 9", hall.sheet(9, 7, 9), OUTSIDE);
        due("n 7, m -1", hall.sheet(9, 7, -1), OUTSIDE);
        due("n -1", hall.sheet(10, -1, 1), SIZE);
        due("n -1, m 9", hall.sheet(10, -1, 9), SIZE);
        due("n 0, m -1", hall.sheet(17, 0, -1), SIZE);
        due("least", hall.sheet(19, LEAST, LEAST), SIZE);
        due("SIZE", hall.count(6), 4);
        due("nothing made", hall.count(0), 0);
        int[] forms = {9, 10, 17, 18, 19};
        int[] rows = {6, 7, 11, 12, 16};
        for (int i = 0; i < forms.length; i++) {
            due("form " + forms[i], hall.sheet(forms[i], 2, 5), 3 * i);
            hall.keep(0, 3 * i);
            due("places", hall.size(0, forms[i]), 2);
            for (int k = 0; k < 2; k++) {
                due("piece " + k, hall.piece(0, forms[i], k), 3 * i + 1 + k);
                hall.keep(1, 3 * i + 1 + k);
                due("is row", hall.is(1, rows[i]), 1);
                due("its label", hall.label(1), rows[i]);
                due("its places", hall.size(1, rows[i]), 5);
            }
        }
        due("without rows", hall.sheet(9, 6, 9), 15);
        hall.keep(0, 15);
        due("its places", hall.size(0, 9), 6);
        due("its piece", hall.piece(0, 9, 5), NONE);
        due("six by six", hall.sheet(10, 6, 6), 16);
        due("no rows", hall.sheet(18, 0, 0), 23);
        due("24 in all", hall.count(0), 24);
        sheetFull();
    }

    private static void sheetFull() {
        DrawerHall hall = withThings(117);
        due("one too many", hall.sheet(9, 3, 1), FULL);
        due("one too many, m -1", hall.sheet(9, 3, -1), FULL);
        due("just so, m -1", hall.sheet(9, 2, -1), SIZE);
        due("nothing made", hall.count(0), 117);
        due("just so", hall.sheet(9, 2, 1), 117);
        due("full", hall.sheet(9, 0, 1), FULL);
        due("full, without rows", hall.sheet(9, 6, 9), FULL);
        due("OUTSIDE comes ahead", hall.sheet(9, 1, 7), OUTSIDE);
        hall = withThings(119);
        due("six without rows", hall.sheet(9, 6, 9), 119);
        // 1 and -1 would go in where nothing else would, by the document's words.
        due("full, n -1", hall.sheet(9, -1, 1), SIZE);
        due("full, n -1 without rows", hall.sheet(9, -1, 9), FULL);
    }

    private static void keepAndHeld() {
        part = "keep, held";
        DrawerHall hall = withThings(3);
        int[] drawers = {LEAST, -1, 16, GREATEST};
        for (int drawer : drawers) {
            due("keep(" + drawer + ", 0)", hall.keep(drawer, 0), UNKNOWN);
            due("keep(" + drawer + ", NONE)", hall.keep(drawer, NONE), UNKNOWN);
            due("held(" + drawer + ")", hall.held(drawer), UNKNOWN);
        }
        due("first", hall.keep(0, 2), NONE);
        due("held", hall.held(0), 2);
        int[] things = {LEAST, -6, -4, -1, 3, 119, 120, GREATEST};
        for (int thing : things) {
            due("keep(0, " + thing + ")", hall.keep(0, thing), UNKNOWN);
        }
        due("still held", hall.held(0), 2);
        due("another", hall.keep(0, 1), 2);
        due("the same in two drawers", hall.keep(15, 1), NONE);
        due("held in the last", hall.held(15), 1);
        due("none", hall.keep(0, NONE), 1);
        due("none again", hall.keep(0, NONE), NONE);
        due("held", hall.held(0), NONE);
        due("the other one stays", hall.held(15), 1);
    }

    private static final String[] IS = {
        "1", "1 2 20", "1 2 3 20", "1 4", "5 20", "6", "7", "8", "9", "10",
        "11", "11 12 16", "11 12 13 16", "11 14", "15 16", "16", "17", "17 18 19", "19"
    };

    private static void is() {
        part = "is";
        DrawerHall hall = withAllForms();
        for (int form = 1; form <= 19; form++) {
            hall.keep(3, form - 1);
            String kinds = " " + IS[form - 1] + " ";
            for (int kind = 1; kind <= 20; kind++) {
                int want = kinds.contains(" " + kind + " ") ? 1 : 0;
                due("form " + form + ", kind " + kind, hall.is(3, kind), want);
            }
        }
        for (int kind = 1; kind <= 20; kind++) {
            due("nothing, kind " + kind, hall.is(15, kind), 0);
        }
        due("kind 0", hall.is(3, 0), OUTSIDE);
        due("kind 21", hall.is(3, 21), OUTSIDE);
        due("kind 21 of nothing", hall.is(15, 21), OUTSIDE);
        due("drawer 16", hall.is(16, 1), UNKNOWN);
        due("drawer -1", hall.is(-1, 1), UNKNOWN);
    }

    private static void label() {
        part = "label";
        DrawerHall hall = withAllForms();
        int[] labels = {1, 2, 3, 4, 20, 6, 7, 8, 9, 10, 11, 12, 13, 14, 15, 16, 17, 18, 19};
        for (int form = 1; form <= 19; form++) {
            hall.keep(0, form - 1);
            due("form " + form, hall.label(0), labels[form - 1]);
        }
        due("nothing", hall.label(15), 0);
        due("drawer 16", hall.label(16), UNKNOWN);
        due("drawer -1", hall.label(-1), UNKNOWN);
    }

    private static void weight() {
        part = "weight";
        DrawerHall hall = withRows();
        int[] wants = {7, 13, 25, 40, CAST, CAST, CAST};
        for (int drawer = 0; drawer < wants.length; drawer++) {
            due("drawer " + drawer, hall.weight(drawer), wants[drawer]);
        }
        due("nothing", hall.weight(15), NOTHING);
        due("drawer 16", hall.weight(16), UNKNOWN);
        due("drawer -1", hall.weight(-1), UNKNOWN);
        dueFindings(hall, 1, 0, 3);
    }

    private static void light() {
        part = "light";
        DrawerHall hall = withRows();
        int[] wants = {CAST, 4, 11, CAST, 12, CAST, CAST};
        for (int drawer = 0; drawer < wants.length; drawer++) {
            due("drawer " + drawer, hall.light(drawer), wants[drawer]);
        }
        int[][] others = {{2, 0, 1}, {2, 999, 10}, {3, 10, 6}, {3, 999, 15}, {5, 0, 0}, {5, 999, 1998}};
        for (int[] other : others) {
            keepThing(hall, 0, other[0], other[1]);
            due("form " + other[0] + ", weight " + other[1], hall.light(0), other[2]);
        }
        due("row of what shines", hall.light(10), CAST);
        due("nothing", hall.light(15), NOTHING);
        due("drawer 16", hall.light(16), UNKNOWN);
        dueFindings(hall, 1, 0, 5);
    }

    private static void size() {
        part = "size";
        DrawerHall hall = withRows();
        keepRow(hall, 11, 8, 0);
        keepSheet(hall, 12, 18, 4, 9);
        due("gems as gems", hall.size(6, 12), 3);
        due("gems as stones", hall.size(6, 11), 3);
        due("gems as what shines", hall.size(6, 16), 3);
        due("gems as pearls", hall.size(6, 13), CAST);
        due("gems as ints", hall.size(6, 6), CAST);
        due("bytes", hall.size(11, 8), 0);
        due("bytes as ints", hall.size(11, 6), CAST);
        due("shelf as shelf of stones", hall.size(12, 17), 4);
        due("shelf as row of stones", hall.size(12, 11), CAST);
        due("stone", hall.size(0, 11), CAST);
        due("nothing", hall.size(15, 6), NOTHING);
        due("nothing", hall.size(15, 19), NOTHING);
        due("kind 5", hall.size(6, 5), OUTSIDE);
        due("kind 20", hall.size(6, 20), OUTSIDE);
        due("kind 5 of nothing", hall.size(15, 5), OUTSIDE);
        due("drawer 16", hall.size(16, 6), UNKNOWN);
        dueFindings(hall, 2, 0, 5);
    }

    private static void putAndNumber() {
        part = "put, number";
        DrawerHall hall = new DrawerHall();
        keepRow(hall, 6, 6, 3);
        keepRow(hall, 7, 7, 12);
        keepRow(hall, 8, 8, 4);
        keepSheet(hall, 9, 9, 2, 2);
        keepThing(hall, 1, 1, 1);
        long[] values = {0, -1, 127, 128, 255, 256, 0x7fffffffL, 0x80000000L, 0x1234567890abcdefL, Long.MIN_VALUE};
        for (long v : values) {
            due("int " + v, hall.put(6, 6, 2, v), 1);
            dueNumber(hall, 6, 6, 2, Integer.toString((int) v));
            due("long " + v, hall.put(7, 7, 11, v), 1);
            dueNumber(hall, 7, 7, 11, Long.toString(v));
            due("byte " + v, hall.put(8, 8, 3, v), 1);
            dueNumber(hall, 8, 8, 3, Byte.toString((byte) v));
        }
        hall.put(6, 6, 0, 5);
        dueNumber(hall, 6, 6, 0, "5");
        dueNumber(hall, 6, 6, 1, "0");
        putAndNumberRefused(hall);
    }

    private static void putAndNumberRefused(DrawerHall hall) {
        due("place 3", hall.put(6, 6, 3, 1), BEYOND);
        due("place -1", hall.put(6, 6, -1, 1), BEYOND);
        due("as longs", hall.put(6, 7, 0, 1), CAST);
        due("as longs, place 9", hall.put(6, 7, 9, 1), CAST);
        due("a stone", hall.put(1, 6, 0, 1), CAST);
        due("a sheet", hall.put(9, 6, 0, 1), CAST);
        due("nothing", hall.put(0, 8, 0, 1), NOTHING);
        due("kind 5", hall.put(6, 5, 0, 1), OUTSIDE);
        due("kind 9", hall.put(9, 9, 0, 1), OUTSIDE);
        due("drawer 16", hall.put(16, 6, 0, 1), UNKNOWN);
        dueFindings(hall, 1, 2, 4);
        dueNumber(hall, 6, 6, 0, "5");
        dueNumber(hall, 6, 6, 3, "ArrayIndexOutOfBoundsException");
        dueNumber(hall, 6, 6, -1, "ArrayIndexOutOfBoundsException");
        dueNumber(hall, 6, 6, LEAST, "ArrayIndexOutOfBoundsException");
        dueNumber(hall, 6, 7, 0, "ClassCastException");
        dueNumber(hall, 6, 8, 99, "ClassCastException");
        dueNumber(hall, 1, 6, 0, "ClassCastException");
        dueNumber(hall, 9, 6, 0, "ClassCastException");
        dueNumber(hall, 0, 6, -1, "NullPointerException");
        dueNumber(hall, 16, 6, 0, "0");
        dueNumber(hall, -1, 6, 0, "0");
        dueNumber(hall, 6, 5, 0, "0");
        dueNumber(hall, 0, 9, 0, "0");
        // number() counts none.
        dueFindings(hall, 1, 2, 4);
    }

    private static void lay() {
        part = "lay";
        DrawerHall hall = withRows();
        due("gem into stones", hall.lay(5, 11, 0, 1), 1);
        due("it is there", hall.piece(5, 11, 0), 1);
        due("stone into gems as stones", hall.lay(6, 11, 0, 0), STORE);
        due("stone into gems as gems", hall.lay(6, 12, 0, 0), CAST);
        due("lamp into gems as what shines", hall.lay(6, 16, 0, 4), STORE);
        due("lamp into pearls as gems", hall.lay(7, 12, 0, 4), CAST);
        due("pearl into gems as what shines", hall.lay(6, 16, 2, 2), 1);
        due("lamp into what shines", hall.lay(10, 16, 1, 4), 1);
        due("fossil into what shines", hall.lay(10, 16, 1, 3), CAST);
        due("what shines as gems", hall.lay(10, 12, 0, 1), CAST);
        due("the first one's place is not asked ahead of the other one", hall.lay(5, 11, 9, 4), CAST);
        due("place 3", hall.lay(5, 11, 3, 1), BEYOND);
        due("place -1", hall.lay(5, 11, -1, 1), BEYOND);
        due("BEYOND comes ahead of STORE", hall.lay(6, 11, 3, 0), BEYOND);
        due("into nothing", hall.lay(15, 11, 0, 0), NOTHING);
        due("CAST of the other one comes ahead of NOTHING", hall.lay(15, 11, 0, 4), CAST);
        due("nothing into nothing", hall.lay(15, 11, 0, 14), NOTHING);
        due("nothing into stones", hall.lay(5, 11, 0, 15), 1);
        due("it is gone", hall.piece(5, 11, 0), NONE);
        due("nothing beyond", hall.lay(5, 11, 3, 15), BEYOND);
        due("refused ones changed nothing", hall.piece(6, 12, 0), NONE);
        due("into a stone", hall.lay(0, 11, 0, 0), CAST);
        due("kind 8", hall.lay(5, 8, 0, 1), OUTSIDE);
        due("kind 20", hall.lay(5, 20, 0, 1), OUTSIDE);
        due("drawer 16", hall.lay(16, 11, 0, 1), UNKNOWN);
        due("from 16", hall.lay(5, 11, 0, 16), UNKNOWN);
        due("from -1, kind 8", hall.lay(5, 8, 0, -1), UNKNOWN);
        dueFindings(hall, 2, 4, 7);
        due("STORE", hall.count(5), 2);
    }

    private static void layIntoSheetsAndShelves() {
        part = "lay (sheets, shelves)";
        DrawerHall hall = withRows();
        keepSheet(hall, 0, 9, 2, 9);
        keepSheet(hall, 1, 10, 2, 9);
        keepSheet(hall, 2, 18, 2, 9);
        keepSheet(hall, 3, 19, 2, 9);
        keepRow(hall, 11, 6, 1);
        keepRow(hall, 12, 7, 1);
        due("ints", hall.lay(0, 9, 0, 11), 1);
        due("longs into a sheet of ints", hall.lay(0, 9, 0, 12), CAST);
        due("longs", hall.lay(1, 10, 1, 12), 1);
        due("a sheet as another one", hall.lay(1, 9, 1, 11), CAST);
        due("pearls into a shelf of gems as one of stones", hall.lay(2, 17, 0, 7), 1);
        due("stones into a shelf of gems as one of stones", hall.lay(2, 17, 1, 5), STORE);
        due("lamps into a shelf of gems as one of what shines", hall.lay(2, 19, 1, 9), STORE);
        due("lamps into a shelf of what shines", hall.lay(3, 19, 1, 9), 1);
        due("fossils into a shelf of what shines", hall.lay(3, 19, 1, 8), CAST);
        due("a shelf into itself", hall.lay(3, 19, 1, 3), CAST);
        due("a lamp into a shelf", hall.lay(3, 19, 1, 4), CAST);
        due("nothing into a sheet", hall.lay(0, 9, 0, 15), 1);
        due("ints are gone", hall.piece(0, 9, 0), NONE);
        due("longs are there", hall.held(12), hall.piece(1, 10, 1));
        due("pearls are there", hall.held(7), hall.piece(2, 18, 0));
        due("lamps are there", hall.held(9), hall.piece(3, 19, 1));
    }

    private static void piece() {
        part = "piece";
        DrawerHall hall = withRows();
        keepSheet(hall, 11, 9, 2, 2);
        hall.lay(6, 12, 1, 2);
        due("as gems", hall.piece(6, 12, 1), 2);
        due("as stones", hall.piece(6, 11, 1), 2);
        due("as what shines", hall.piece(6, 16, 1), 2);
        due("as pearls", hall.piece(6, 13, 1), CAST);
        due("none", hall.piece(6, 12, 0), NONE);
        due("of a sheet", hall.piece(11, 9, 1), hall.held(11) + 2);
        due("place 3", hall.piece(6, 12, 3), BEYOND);
        due("place -1", hall.piece(6, 12, -1), BEYOND);
        due("most place", hall.piece(6, 12, GREATEST), BEYOND);
        due("of nothing", hall.piece(15, 12, 0), NOTHING);
        due("of a gem", hall.piece(1, 12, 0), CAST);
        due("kind 8", hall.piece(6, 8, 0), OUTSIDE);
        due("kind 20", hall.piece(6, 20, 0), OUTSIDE);
        due("drawer 16", hall.piece(16, 12, 0), UNKNOWN);
        dueFindings(hall, 1, 3, 2);
    }

    private static void pick() {
        part = "pick";
        DrawerHall hall = withRows();
        hall.lay(6, 12, 1, 2);
        hall.lay(6, 12, 2, 1);
        due("as pearls", hall.pick(6, 13, 1, 14), CAST);
        due("place 3", hall.pick(6, 12, 3, 14), BEYOND);
        due("place -1", hall.pick(6, 12, -1, 14), BEYOND);
        due("of nothing", hall.pick(15, 12, 1, 14), NOTHING);
        due("kind 8", hall.pick(6, 8, 1, 14), OUTSIDE);
        due("drawer 16", hall.pick(16, 12, 1, 14), UNKNOWN);
        due("to 16", hall.pick(6, 12, 1, 16), UNKNOWN);
        due("to -1, kind 8", hall.pick(6, 8, 1, -1), UNKNOWN);
        due("refused ones changed no drawer", hall.held(14), NONE);
        dueFindings(hall, 1, 2, 1);
        due("nor the row", hall.piece(6, 12, 1), 2);
        due("a pearl", hall.pick(6, 16, 1, 14), 2);
        due("it is held", hall.held(14), 2);
        due("it is gone", hall.piece(6, 12, 1), NONE);
        due("none", hall.pick(6, 11, 1, 14), NONE);
        due("none is held", hall.held(14), NONE);
        due("into its own drawer", hall.pick(6, 12, 2, 6), 1);
        due("it is held in place of its row", hall.held(6), 1);
        keepSheet(hall, 11, 17, 2, 1);
        due("a row of a shelf", hall.pick(11, 17, 0, 12), hall.held(11) + 1);
        due("a row, its label", hall.label(12), 11);
        due("gone from the shelf", hall.piece(11, 17, 0), NONE);
    }

    private static void movedPieces() {
        part = "move";
        DrawerHall hall = withRows();
        keepRow(hall, 11, 11, 5);
        for (int i = 0; i < 4; i++) {
            hall.lay(11, 11, i, i);
        }
        due("stones to stones", hall.move(11, 1, 5, 0, 3), 1);
        due("0", hall.piece(5, 11, 0), 1);
        due("1", hall.piece(5, 11, 1), 2);
        due("2", hall.piece(5, 11, 2), 3);
        due("the first one keeps them", hall.piece(11, 11, 1), 1);
        due("within one row, to later places", hall.move(11, 0, 11, 1, 4), 1);
        int[] later = {0, 0, 1, 2, 3};
        for (int i = 0; i < later.length; i++) {
            due("place " + i, hall.piece(11, 11, i), later[i]);
        }
        hall.keep(12, hall.held(11));
        due("within one row of two drawers, to earlier places", hall.move(11, 2, 12, 0, 3), 1);
        int[] earlier = {1, 2, 3, 2, 3};
        for (int i = 0; i < earlier.length; i++) {
            due("place " + i, hall.piece(11, 11, i), earlier[i]);
        }
        due("gems among stones to gems", hall.move(11, 0, 6, 0, 2), 1);
        due("the pearl is there", hall.piece(6, 12, 1), 2);
        hall.lay(11, 11, 0, 15);
        due("nothing moves, too", hall.move(11, 0, 6, 1, 1), 1);
        due("the pearl is gone", hall.piece(6, 12, 1), NONE);
        due("none of them, at the end", hall.move(11, 5, 5, 3, 0), 1);
        due("none of them, of other kinds", hall.move(11, 0, 9, 0, 0), 1);
        keepSheet(hall, 0, 9, 2, 9);
        keepSheet(hall, 1, 19, 2, 9);
        due("nothing of a sheet to a shelf", hall.move(0, 0, 1, 0, 2), 1);
        due("nothing of a shelf to stones", hall.move(1, 0, 5, 0, 2), 1);
        due("nothing is there", hall.piece(5, 11, 0), NONE);
    }

    private static void movedNumbers() {
        part = "move (numbers)";
        for (int form = 6; form <= 8; form++) {
            DrawerHall hall = new DrawerHall();
            keepRow(hall, 0, form, 5);
            keepRow(hall, 1, form, 3);
            for (int i = 0; i < 5; i++) {
                hall.put(0, form, i, -i - 5);
            }
            due("to another", hall.move(0, 0, 1, 1, 2), 1);
            dueNumber(hall, 1, form, 0, "0");
            dueNumber(hall, 1, form, 1, "-5");
            dueNumber(hall, 1, form, 2, "-6");
            due("to later places", hall.move(0, 0, 0, 2, 3), 1);
            dueNumber(hall, 0, form, 2, "-5");
            dueNumber(hall, 0, form, 3, "-6");
            dueNumber(hall, 0, form, 4, "-7");
            due("to earlier places", hall.move(0, 1, 0, 0, 3), 1);
            dueNumber(hall, 0, form, 0, "-6");
            dueNumber(hall, 0, form, 1, "-5");
            dueNumber(hall, 0, form, 2, "-6");
            keepRow(hall, 2, form == 8 ? 6 : form + 1, 3);
            keepRow(hall, 3, 16, 3);
            due("to other numbers", hall.move(0, 0, 2, 0, 0), STORE);
            due("to things", hall.move(0, 0, 3, 0, 0), STORE);
            due("from things", hall.move(3, 0, 0, 0, 0), STORE);
        }
    }

    private static void moveRefused() {
        part = "move (refused)";
        DrawerHall hall = withRows();
        due("from nothing", hall.move(15, 0, 5, 0, 1), NOTHING);
        due("to nothing", hall.move(5, 0, 15, 0, 1), NOTHING);
        due("nothing ahead of STORE", hall.move(0, 0, 15, 0, -1), NOTHING);
        due("from a stone", hall.move(0, 0, 5, 0, 1), STORE);
        due("to a stone", hall.move(5, 0, 0, 0, 1), STORE);
        due("STORE ahead of BEYOND", hall.move(5, -1, 0, -1, -1), STORE);
        due("a -1", hall.move(5, -1, 6, 0, 1), BEYOND);
        due("b -1", hall.move(5, 0, 6, -1, 1), BEYOND);
        due("n -1", hall.move(5, 0, 6, 0, -1), BEYOND);
        due("a 3", hall.move(5, 3, 6, 0, 1), BEYOND);
        due("b 3", hall.move(5, 0, 6, 3, 1), BEYOND);
        due("n 4", hall.move(5, 0, 6, 0, 4), BEYOND);
        due("a 4, n 0", hall.move(5, 4, 6, 0, 0), BEYOND);
        due("b 4, n 0", hall.move(5, 0, 6, 4, 0), BEYOND);
        due("a and n wrap round", hall.move(5, 1, 5, 1, GREATEST), BEYOND);
        due("a most", hall.move(5, GREATEST, 6, 0, 1), BEYOND);
        due("b most, n most", hall.move(5, 0, 6, GREATEST, GREATEST), BEYOND);
        due("least", hall.move(5, LEAST, 6, LEAST, LEAST), BEYOND);
        due("from 16", hall.move(16, 0, 5, 0, 1), UNKNOWN);
        due("to -1", hall.move(5, 0, -1, 0, 1), UNKNOWN);
        dueFindings(hall, 3, 12, 0);
        due("STORE", hall.count(5), 3);
    }

    private static void moveInPart() {
        part = "move (in part)";
        DrawerHall hall = withRows();
        hall.lay(5, 11, 0, 2);
        hall.lay(5, 11, 1, 0);
        hall.lay(5, 11, 2, 1);
        hall.lay(6, 12, 2, 2);
        due("pearl, stone, gem to gems", hall.move(5, 0, 6, 0, 3), STORE);
        due("the one ahead stays moved", hall.piece(6, 12, 0), 2);
        due("the refused one is not", hall.piece(6, 12, 1), NONE);
        due("nor the one behind", hall.piece(6, 12, 2), 2);
        due("the first one keeps all", hall.piece(5, 11, 1), 0);
        due("STORE once", hall.count(5), 1);
        keepSheet(hall, 11, 17, 2, 1);
        keepSheet(hall, 12, 19, 2, 9);
        hall.lay(11, 17, 0, 6);
        due("gems, stones to a shelf of what shines", hall.move(11, 0, 12, 0, 2), STORE);
        due("the gems are there", hall.piece(12, 19, 0), 6);
        due("the stones are not", hall.piece(12, 19, 1), NONE);
        due("rows to a row of stones", hall.move(11, 0, 5, 0, 1), STORE);
        due("stones to a shelf", hall.move(5, 0, 11, 0, 1), STORE);
        keepSheet(hall, 13, 9, 2, 1);
        keepSheet(hall, 14, 10, 2, 1);
        due("ints to a sheet of longs", hall.move(13, 0, 14, 0, 1), STORE);
        due("ints to a shelf", hall.move(13, 0, 12, 0, 1), STORE);
    }

    private static void shine() {
        part = "shine";
        DrawerHall hall = withRows();
        for (int i = 0; i < 3; i++) {
            hall.lay(5, 11, i, i);
        }
        due("stone, gem, pearl", hall.shine(5, 11), 15);
        hall.lay(5, 11, 0, 3);
        hall.lay(5, 11, 1, 15);
        due("fossil, nothing, pearl", hall.shine(5, 11), 11);
        hall.lay(10, 16, 0, 4);
        hall.lay(10, 16, 1, 4);
        hall.lay(10, 16, 2, 1);
        due("lamp, the same, gem", hall.shine(10, 16), 28);
        hall.lay(6, 12, 0, 1);
        due("gems as stones", hall.shine(6, 11), 4);
        due("gems as what shines", hall.shine(6, 16), 4);
        due("gems as pearls", hall.shine(6, 13), CAST);
        due("empty fossils", hall.shine(8, 14), 0);
        due("of a lamp", hall.shine(4, 16), CAST);
        due("of nothing", hall.shine(15, 16), NOTHING);
        keepSheet(hall, 12, 17, 1, 1);
        due("a shelf as stones", hall.shine(12, 11), CAST);
        due("kind 10", hall.shine(5, 10), OUTSIDE);
        due("kind 17", hall.shine(12, 17), OUTSIDE);
        due("drawer 16", hall.shine(16, 16), UNKNOWN);
        dueFindings(hall, 1, 0, 3);
    }

    private static void many() {
        part = "many";
        DrawerHall hall = withRows();
        hall.keep(15, 1);
        int[] wants = {5, 3, 1, 1, 1, 0, 0, 0, 0, 0, 4, 2, 1, 1, 1, 4, 0, 0, 0, 4};
        for (int kind = 1; kind <= 20; kind++) {
            due("kind " + kind, hall.many(kind), wants[kind - 1]);
        }
        due("kind 0", hall.many(0), OUTSIDE);
        due("kind 21", hall.many(21), OUTSIDE);
        due("kind -1", hall.many(-1), OUTSIDE);
    }

    private static void count() {
        part = "count";
        DrawerHall hall = withRows();
        hall.keep(15, 0);
        due("things", hall.count(0), 11);
        due("drawers", hall.count(1), 12);
        hall.weight(14);
        hall.piece(5, 11, 3);
        hall.piece(5, 11, -1);
        for (int i = 0; i < 3; i++) {
            hall.weight(4);
        }
        for (int i = 0; i < 4; i++) {
            hall.lay(6, 11, 0, 0);
        }
        for (int i = 0; i < 5; i++) {
            hall.row(6, -1);
        }
        for (int what = 2; what <= 6; what++) {
            due("finding " + (what - 1), hall.count(what), what - 1);
        }
        int[] wrong = {LEAST, -1, 7, GREATEST};
        for (int what : wrong) {
            due("what " + what, hall.count(what), OUTSIDE);
        }
    }

    private static void clear() {
        part = "clear";
        DrawerHall hall = withRows();
        hall.lay(5, 11, 0, 0);
        hall.weight(15);
        hall.weight(4);
        hall.piece(5, 11, 9);
        hall.row(6, -1);
        hall.lay(6, 11, 0, 0);
        keepRow(hall, 12, 7, 2);
        hall.put(12, 7, 0, 5);
        due("twelve things", hall.clear(), 12);
        for (int drawer = 0; drawer < 16; drawer++) {
            due("held(" + drawer + ")", hall.held(drawer), NONE);
        }
        for (int what = 0; what <= 6; what++) {
            due("count(" + what + ")", hall.count(what), 0);
        }
        due("no thing 0", hall.keep(0, 0), UNKNOWN);
        due("none more", hall.clear(), 0);
        for (int i = 0; i < 12; i++) {
            due("row " + i, hall.row(i < 6 ? 7 : 11, 3), i);
        }
        hall.keep(0, 5);
        dueNumber(hall, 0, 7, 0, "0");
        hall.keep(0, 11);
        due("the rows are as new ones", hall.piece(0, 11, 0), NONE);
        hall = withThings(120);
        due("a full hall", hall.clear(), 120);
        due("goes on from 0", hall.sheet(9, 2, 3), 0);
    }

    private static void unknownAheadOfOutside() {
        part = "UNKNOWN ahead of OUTSIDE";
        DrawerHall hall = withRows();
        due("is", hall.is(16, 0), UNKNOWN);
        due("size", hall.size(16, 0), UNKNOWN);
        due("put", hall.put(16, 0, 0, 0), UNKNOWN);
        due("lay", hall.lay(16, 0, 0, 0), UNKNOWN);
        due("piece", hall.piece(16, 0, 0), UNKNOWN);
        due("pick", hall.pick(0, 0, 0, 16), UNKNOWN);
        due("shine", hall.shine(16, 0), UNKNOWN);
        for (int what = 2; what <= 6; what++) {
            due("no finding is counted", hall.count(what), 0);
        }
    }
}
