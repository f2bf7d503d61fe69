/**
 * Each sentence of the document that names a boundary (too small, too large, empty, full, a wrap-around, a refused
 * call, what comes first) has a test of its own here: the sentence as the document writes it, and calls on a new hall.
 */
public final class SentencesTest {
    private static final Due DUE = new Due();

    /** Drawers 0 to 4: things 0 to 4, a stone of 7, a gem of 13, a pearl of 25, a fossil of 40, a lamp of 6. */
    private static final String SINGLES = "thing(1, 7); thing(2, 13); thing(3, 25); thing(4, 40); thing(5, 6);"
        + "keep(0, 0); keep(1, 1); keep(2, 2); keep(3, 3); keep(4, 4);";
    /** Behind SINGLES. Drawers 5 to 10: things 5 to 10, rows of 3 places of the forms 11 to 16. */
    private static final String ROWS = "row(11, 3); row(12, 3); row(13, 3); row(14, 3); row(15, 3); row(16, 3);"
        + "keep(5, 5); keep(6, 6); keep(7, 7); keep(8, 8); keep(9, 9); keep(10, 10);";
    /** Drawers 0 to 2: things 0 to 2, rows of 4 ints, longs, bytes: 5, 6, 7, 8. */
    private static final String NUMBERS = "row(6, 4); row(7, 4); row(8, 4); keep(0, 0); keep(1, 1); keep(2, 2);"
        + "put(0, 6, 0, 5); put(0, 6, 1, 6); put(0, 6, 2, 7); put(0, 6, 3, 8);"
        + "put(1, 7, 0, 5); put(1, 7, 1, 6); put(1, 7, 2, 7); put(1, 7, 3, 8);"
        + "put(2, 8, 0, 5); put(2, 8, 1, 6); put(2, 8, 2, 7); put(2, 8, 3, 8);";
    /** Behind SINGLES and ROWS. Drawer 5, stones: pearl, gem, stone. Drawer 6, gems: gem, nothing, pearl. */
    private static final String FILLED =
        "lay(5, 11, 0, 2); lay(5, 11, 1, 1); lay(5, 11, 2, 0); lay(6, 12, 0, 1); lay(6, 12, 2, 2);";
    /** Behind nothing. Things and drawers 0 to 4: sheets of ints and longs, shelves of stones, gems, what shines. */
    private static final String SHEETS =
        "sheet(9, 2, 9); sheet(10, 2, 9); sheet(17, 2, 9); sheet(18, 2, 9); sheet(19, 2, 9);"
        + "keep(0, 0); keep(1, 1); keep(2, 2); keep(3, 3); keep(4, 4);";
    /** Behind SHEETS. Things and drawers 5 to 10: rows of 1 place of ints, longs, stones, gems, pearls, what shines. */
    private static final String THEIR_ROWS = "row(6, 1); row(7, 1); row(11, 1); row(12, 1); row(13, 1); row(16, 1);"
        + "keep(5, 5); keep(6, 6); keep(7, 7); keep(8, 8); keep(9, 9); keep(10, 10);";

    public static void main(String[] args) {
        things();
        kinds();
        drawers();
        findings();
        lights();
        labels();
        moves();
        movesRefused();
        refusals();
        refusedOnesChangeNothing();
        newObject();
        thing();
        row();
        sheet();
        keepAndHeld();
        isAndMany();
        weightAndLight();
        size();
        put();
        number();
        lay();
        piece();
        pick();
        move();
        shine();
        count();
        clear();
        calls();
        DUE.end();
    }

    private static void sentence(String quote, String... calls) {
        Run run = new Run(quote, DUE);
        for (String part : calls) {
            run.calls(part);
        }
    }

    /** What the drawer's thing is of all 20 kinds: those named, and no other. */
    private static String is(int drawer, String kinds) {
        StringBuilder calls = new StringBuilder();
        for (int kind = 1; kind <= 20; kind++) {
            boolean named = (" " + kinds + " ").contains(" " + kind + " ");
            calls.append("is(" + drawer + ", " + kind + ") = " + (named ? 1 : 0) + "; ");
        }
        return calls.toString();
    }

    private static String pieces(int drawer, int kind, String things) {
        StringBuilder calls = new StringBuilder();
        String[] parts = things.split(" ");
        for (int i = 0; i < parts.length; i++) {
            calls.append("piece(" + drawer + ", " + kind + ", " + i + ") = " + parts[i] + "; ");
        }
        return calls.toString();
    }

    private static String numbers(int drawer, int kind, String values) {
        StringBuilder calls = new StringBuilder();
        String[] parts = values.split(" ");
        for (int i = 0; i < parts.length; i++) {
            calls.append("number(" + drawer + ", " + kind + ", " + i + ") = " + parts[i] + "; ");
        }
        return calls.toString();
    }

    private static void things() {
        sentence("THINGS have a FORM, and are numbered from 0 on as they are made",
            "thing(5, 1) = 0; row(6, 0) = 1; sheet(17, 2, 9) = 2; row(16, 12) = 3; thing(1, 0) = 4; count(0) = 5");
        sentence("are numbered from 0 on as they are made (what is refused takes no number)",
            "thing(6, 1) = OUTSIDE; row(5, 1) = OUTSIDE; sheet(8, 1, 1) = OUTSIDE; row(6, -1) = SIZE;",
            "sheet(9, 1, -1) = SIZE; thing(1, 1) = 0");
        sentence("(120 at most) by things",
            "119 x thing(1, 0); thing(5, 999) = 119; thing(5, 999) = FULL; count(0) = 120");
        sentence("(120 at most) by rows", "119 x row(16, 12); row(6, 12) = 119; row(6, 12) = FULL; count(0) = 120");
        sentence("(120 at most) by sheets",
            "17 x sheet(9, 6, 6); count(0) = 119; sheet(10, 6, 9) = 119; sheet(10, 6, 9) = FULL");
        sentence("(120 at most) the last one is as good as any",
            "119 x thing(1, 0); row(7, 12) = 119; keep(0, 119); put(0, 7, 11, -9) = 1; number(0, 7, 11) = -9;",
            "number(0, 7, 0) = 0; put(0, 7, 0, 4) = 1; number(0, 7, 0) = 4;",
            "number(0, 7, 12) = throws.ArrayIndexOutOfBoundsException");
        sentence("1 a STONE, 2 a GEM, 3 a PEARL, 4 a FOSSIL, 5 a LAMP",
            SINGLES, "label(0) = 1; label(1) = 2; label(2) = 3; label(3) = 4; label(4) = 20; is(4, 5) = 1");
        sentence("each with a WEIGHT (its own)",
            SINGLES, "weight(0) = 7; weight(1) = 13; weight(2) = 25; weight(3) = 40");
        sentence("6 INTS, 7 LONGS, 8 BYTES: rows of numbers, 0 at first",
            "row(6, 2); row(7, 2); row(8, 2); keep(0, 0); keep(1, 1); keep(2, 2);", numbers(0, 6, "0 0"),
            numbers(1, 7, "0 0"), numbers(2, 8, "0 0"));
        sentence("rows of numbers, 0 at first (where things were ahead of a clear)",
            "2 x row(11, 12); keep(0, 0); clear(); 2 x row(8, 12); keep(0, 0); keep(1, 1);",
            numbers(0, 8, "0 0 0 0 0 0 0 0 0 0 0 0"), numbers(1, 8, "0 0 0 0 0 0 0 0 0 0 0 0"));
        sentence("9 a SHEET of INTS, 10 a SHEET of LONGS: rows of such rows",
            "sheet(9, 1, 3); sheet(10, 1, 4); keep(0, 1); keep(1, 3); label(0) = 6; size(0, 6) = 3; label(1) = 7;",
            "size(1, 7) = 4;", numbers(0, 6, "0 0 0"), numbers(1, 7, "0 0 0 0"));
        sentence("11 to 16 rows of STONES, GEMS, PEARLS, FOSSILS, LAMPS, of what SHINES: nothing at first",
            SINGLES, ROWS, pieces(5, 11, "NONE NONE NONE"), pieces(6, 12, "NONE NONE NONE"),
            pieces(7, 13, "NONE NONE NONE"), pieces(8, 14, "NONE NONE NONE"), pieces(9, 15, "NONE NONE NONE"),
            pieces(10, 16, "NONE NONE NONE"));
        sentence("nothing at first (where numbers were ahead of a clear)",
            "row(6, 2); keep(0, 0); put(0, 6, 0, 1); put(0, 6, 1, 1); clear(); row(11, 2); keep(0, 0);",
            pieces(0, 11, "NONE NONE"));
        sentence("17 to 19 SHELVES: rows of rows of STONES, of GEMS, of what SHINES",
            "sheet(17, 1, 2); sheet(18, 1, 2); sheet(19, 1, 2); keep(0, 1); keep(1, 3); keep(2, 5);",
            "label(0) = 11; label(1) = 12; label(2) = 16;", pieces(0, 11, "NONE NONE"), pieces(1, 12, "NONE NONE"),
            pieces(2, 16, "NONE NONE"));
    }

    private static void kinds() {
        sentence("KINDS that a THING IS: its FORM", SINGLES, is(0, "1"));
        sentence("a GEM is a STONE, too", SINGLES, is(1, "1 2 20"));
        sentence("a PEARL a GEM (and a STONE)", SINGLES, is(2, "1 2 3 20"));
        sentence("a FOSSIL a STONE", SINGLES, is(3, "1 4"));
        sentence("GEMS, PEARLS and LAMPS are 20: what SHINES",
            SINGLES, is(4, "5 20"), "is(0, 20) = 0; is(1, 20) = 1; is(2, 20) = 1; is(3, 20) = 0");
        sentence("A row of some IS a row of others, if what the first one is of IS what the other one is of",
            SINGLES, ROWS, is(5, "11"), is(6, "11 12 16"), is(7, "11 12 13 16"), is(8, "11 14"), is(9, "15 16"),
            is(10, "16"));
        sentence("A row of some IS a row of others (whatever it holds)",
            SINGLES, ROWS, FILLED, "lay(10, 16, 0, 1); lay(10, 16, 1, 1); lay(10, 16, 2, 1);", is(10, "16"),
            is(6, "11 12 16"));
        sentence("SHELVES and their rows likewise", SHEETS, is(2, "17"), is(3, "17 18 19"), is(4, "19"));
        sentence("Rows of numbers, and SHEETS, are nothing but themselves",
            NUMBERS, "sheet(9, 1, 1); sheet(10, 1, 1); keep(3, 3); keep(4, 5);", is(0, "6"), is(1, "7"), is(2, "8"),
            is(3, "9"), is(4, "10"));
        sentence("NOTHING is of no KIND", is(0, ""), is(15, ""));
        sentence("but passes for each, where it is taken as one",
            SINGLES, ROWS, FILLED, "lay(5, 11, 0, 15) = 1; lay(6, 16, 0, 15) = 1; lay(9, 15, 0, 15) = 1;",
            pieces(5, 11, "NONE 1 0"));
        sentence("but passes for each (rows of SHEETS and SHELVES)",
            SHEETS, "lay(0, 9, 0, 15) = 1; lay(1, 10, 0, 15) = 1; lay(2, 17, 0, 15) = 1; lay(3, 18, 0, 15) = 1;",
            "lay(4, 19, 0, 15) = 1");
        sentence("but passes for each (never CAST, always NOTHING)",
            "weight(15) = NOTHING; light(15) = NOTHING; size(15, 6) = NOTHING; size(15, 9) = NOTHING;",
            "size(15, 19) = NOTHING; put(15, 8, 0, 1) = NOTHING; piece(15, 10, 0) = NOTHING;",
            "pick(15, 17, 0, 1) = NOTHING; shine(15, 13) = NOTHING; lay(15, 9, 0, 14) = NOTHING; count(2) = 10;",
            "count(4) = 0");
    }

    private static void drawers() {
        sentence("DRAWERS 0 .. 15 (the lowest)",
            "thing(1, 7); keep(-1, 0) = UNKNOWN; keep(0, 0) = NONE; held(-1) = UNKNOWN; held(0) = 0");
        sentence("DRAWERS 0 .. 15 (the highest)",
            "thing(1, 7); keep(16, 0) = UNKNOWN; keep(15, 0) = NONE; held(16) = UNKNOWN; held(15) = 0");
        sentence("hold a THING or NOTHING (at first)",
            "held(0) = NONE; held(7) = NONE; held(15) = NONE; thing(1, 7); keep(7, 0); held(7) = 0;",
            "held(6) = NONE; held(8) = NONE");
        sentence("hold a THING (several may hold the same one)",
            "row(6, 1); keep(0, 0); keep(15, 0) = NONE; put(0, 6, 0, 9); number(15, 6, 0) = 9; keep(0, NONE);",
            "number(15, 6, 0) = 9; count(1) = 1");
        sentence("TO TAKE what a DRAWER holds as a KIND: CAST, if it IS not",
            SINGLES, ROWS, "weight(4) = CAST; light(0) = CAST; size(5, 12) = CAST; put(5, 6, 0, 1) = CAST;",
            "number(5, 6, 0) = throws.ClassCastException; lay(5, 16, 0, 1) = CAST; lay(5, 11, 0, 4) = CAST;",
            "piece(5, 13, 0) = CAST; pick(5, 13, 0, 1) = CAST; shine(5, 12) = CAST");
    }

    private static void findings() {
        sentence("1 NOTHING (nothing is asked for something)",
            "weight(0) = -21; count(2) = 1; count(3) = 0; count(4) = 0; count(5) = 0; count(6) = 0");
        sentence("2 BEYOND (no such place)",
            SINGLES, ROWS,
            "piece(5, 11, 3) = -22; count(2) = 0; count(3) = 1; count(4) = 0; count(5) = 0; count(6) = 0");
        sentence("3 CAST (it is not of the KIND as which it is taken)",
            SINGLES, "weight(4) = -23; count(2) = 0; count(3) = 0; count(4) = 1; count(5) = 0; count(6) = 0");
        sentence("4 STORE (a row refuses what is not of its own FORM's kind",
            SINGLES, ROWS,
            "lay(6, 11, 0, 0) = -24; count(2) = 0; count(3) = 0; count(4) = 0; count(5) = 1; count(6) = 0");
        sentence("what is moved is no row",
            SINGLES, ROWS, "move(0, 0, 5, 0, 1) = -24; move(5, 0, 0, 0, 1) = -24; count(5) = 2");
        sentence("or rows are unlike)", NUMBERS, "move(0, 0, 1, 0, 1) = -24; count(5) = 1");
        sentence("5 SIZE (below 0)",
            "row(6, -1) = -25; sheet(9, -1, 1) = -25; sheet(9, 1, -1) = -25; count(2) = 0; count(3) = 0;",
            "count(4) = 0; count(5) = 0; count(6) = 3");
        sentence("a row refuses what is not of its own FORM's kind (as whatever it is taken)",
            SINGLES, ROWS, "lay(7, 11, 0, 0) = STORE; lay(7, 12, 0, 1) = STORE; lay(7, 16, 0, 4) = STORE;",
            "lay(9, 16, 0, 2) = STORE; lay(8, 11, 0, 1) = STORE; lay(7, 11, 0, 2) = 1; lay(9, 16, 0, 4) = 1;",
            "lay(8, 11, 0, 3) = 1");
    }

    private static void lights() {
        sentence("of a GEM its WEIGHT modulo 10 and 1",
            "thing(2, 0); thing(2, 9); thing(2, 10); thing(2, 999); keep(0, 0); keep(1, 1); keep(2, 2);",
            "keep(3, 3); light(0) = 1; light(1) = 10; light(2) = 1; light(3) = 10");
        sentence("of a PEARL that of a GEM and 5",
            "thing(3, 0); thing(3, 9); thing(3, 10); thing(3, 999); keep(0, 0); keep(1, 1); keep(2, 2);",
            "keep(3, 3); light(0) = 6; light(1) = 15; light(2) = 6; light(3) = 15");
        sentence("of a LAMP 2 times its WEIGHT",
            "thing(5, 0); thing(5, 1); thing(5, 999); keep(0, 0); keep(1, 1); keep(2, 2); light(0) = 0;",
            "light(1) = 2; light(2) = 1998");
    }

    private static void labels() {
        sentence("the first of these KINDS that it IS: 3, 2, 4, 1, 20",
            SINGLES, "label(2) = 3; label(1) = 2; label(3) = 4; label(0) = 1; label(4) = 20");
        sentence("8, 7, 6, 10, 9",
            NUMBERS,
            "sheet(9, 0, 0); sheet(10, 0, 0); keep(3, 3); keep(4, 4); label(2) = 8; label(1) = 7; label(0) = 6;",
            "label(4) = 10; label(3) = 9");
        sentence("13, 12, 15, 16, 14, 11",
            SINGLES, ROWS, "label(7) = 13; label(6) = 12; label(9) = 15; label(10) = 16; label(8) = 14; label(5) = 11");
        sentence("18, 19, 17", SHEETS, "label(3) = 18; label(4) = 19; label(2) = 17");
        sentence("0 for NOTHING", SINGLES, "label(15) = 0; keep(0, NONE); label(0) = 0");
    }

    private static void moves() {
        sentence("TO MOVE n pieces from a place of one row on to a place of another one",
            SINGLES, ROWS, FILLED, "row(11, 4); keep(11, 11); move(5, 1, 11, 2, 2) = 1;",
            pieces(11, 11, "NONE NONE 1 0"), pieces(5, 11, "2 1 0"));
        sentence("TO MOVE n pieces (numbers)",
            NUMBERS, "row(6, 3); keep(3, 3); move(0, 2, 3, 1, 2) = 1;", numbers(3, 6, "0 7 8"),
            numbers(0, 6, "5 6 7 8"));
        sentence("TO MOVE n pieces (longs, whole)",
            "row(7, 2); keep(0, 0); row(7, 2); keep(1, 1); put(0, 7, 0, -9223372036854775808);",
            "put(0, 7, 1, 9223372036854775807); move(0, 0, 1, 0, 2) = 1;",
            numbers(1, 7, "-9223372036854775808 9223372036854775807"));
        sentence("TO MOVE n pieces (bytes)",
            NUMBERS, "row(8, 2); keep(3, 3); put(2, 8, 3, 200); move(2, 2, 3, 0, 2) = 1;", numbers(3, 8, "7 -56"));
        sentence("it may be the same; then as if all were taken first (to later places)",
            NUMBERS, "move(0, 0, 0, 1, 3) = 1;", numbers(0, 6, "5 5 6 7"), "move(1, 0, 1, 2, 2) = 1;",
            numbers(1, 7, "5 6 5 6"));
        sentence("it may be the same; then as if all were taken first (to earlier places)",
            NUMBERS, "move(0, 1, 0, 0, 3) = 1;", numbers(0, 6, "6 7 8 8"), "move(2, 2, 2, 0, 2) = 1;",
            numbers(2, 8, "7 8 7 8"));
        sentence("it may be the same (to its own places)",
            NUMBERS, "move(0, 0, 0, 0, 4) = 1;", numbers(0, 6, "5 6 7 8"));
        sentence("it may be the same; then as if all were taken first (THINGS)",
            SINGLES, ROWS, FILLED, "move(5, 0, 5, 1, 2) = 1;", pieces(5, 11, "2 2 1"), "move(6, 1, 6, 0, 2) = 1;",
            pieces(6, 12, "NONE 2 2"));
        sentence("it may be the same (a row in two DRAWERS)",
            NUMBERS, "keep(15, 0); move(0, 0, 15, 1, 3) = 1;", numbers(0, 6, "5 5 6 7"), "move(15, 1, 0, 0, 3) = 1;",
            numbers(15, 6, "5 6 7 7"));
        sentence("it may be the same (rows of a SHEET)",
            SHEETS, THEIR_ROWS, "sheet(9, 3, 1); keep(15, 11); move(15, 0, 15, 1, 2) = 1;", pieces(15, 9, "12 12 13"));
        sentence("SHEETS, SHELVES and rows of THINGS are rows of THINGS here (NOTHING passes from each to each)",
            SHEETS, THEIR_ROWS,
            "move(0, 0, 2, 0, 2) = 1; move(2, 0, 1, 0, 2) = 1; move(1, 0, 7, 0, 1) = 1; move(7, 0, 0, 0, 1) = 1;",
            "move(10, 0, 3, 1, 1) = 1");
        sentence("SHEETS, SHELVES and rows of THINGS are rows of THINGS here (what they hold may be refused yet)",
            SHEETS, THEIR_ROWS,
            "lay(0, 9, 0, 5); lay(2, 17, 0, 7); move(0, 0, 1, 0, 1) = STORE; move(0, 0, 2, 0, 1) = STORE;",
            "move(2, 0, 0, 0, 1) = STORE; move(2, 0, 7, 0, 1) = STORE; move(0, 0, 7, 0, 1) = STORE;",
            "move(2, 0, 4, 0, 1) = STORE;", pieces(1, 10, "NONE NONE"));
    }

    private static void movesRefused() {
        sentence("NOTHING: one of both DRAWERS holds none",
            SINGLES, ROWS,
            "move(15, 0, 5, 0, 1) = NOTHING; move(5, 0, 15, 0, 1) = NOTHING; move(15, 0, 15, 0, 0) = NOTHING;",
            "move(14, 0, 15, 0, 1) = NOTHING");
        sentence("NOTHING (ahead of STORE and BEYOND)",
            SINGLES, ROWS,
            "move(15, 0, 0, 0, 1) = NOTHING; move(0, 0, 15, 0, 1) = NOTHING; move(15, -1, 5, -1, -1) = NOTHING;",
            "move(5, 9, 15, 9, 9) = NOTHING");
        sentence("STORE: one holds no row",
            SINGLES, ROWS, "move(0, 0, 5, 0, 1) = STORE; move(5, 0, 0, 0, 1) = STORE; move(4, 0, 10, 0, 1) = STORE;",
            "move(10, 0, 4, 0, 1) = STORE; move(0, 0, 1, 0, 1) = STORE; move(0, 0, 0, 0, 1) = STORE;",
            "move(1, 0, 5, 0, 0) = STORE");
        sentence("or one a row of numbers, and the other one not of the same FORM",
            NUMBERS, "row(11, 4); keep(3, 3); sheet(9, 2, 2); keep(4, 4); sheet(17, 2, 2); keep(5, 7);",
            "move(0, 0, 1, 0, 1) = STORE; move(1, 0, 0, 0, 1) = STORE; move(0, 0, 2, 0, 1) = STORE;",
            "move(2, 0, 0, 0, 1) = STORE; move(1, 0, 2, 0, 1) = STORE; move(2, 0, 1, 0, 1) = STORE;",
            "move(0, 0, 3, 0, 1) = STORE; move(3, 0, 0, 0, 1) = STORE; move(0, 0, 4, 0, 1) = STORE;",
            "move(4, 0, 0, 0, 1) = STORE; move(5, 0, 2, 0, 1) = STORE; move(2, 0, 5, 0, 1) = STORE;",
            numbers(0, 6, "5 6 7 8"));
        sentence("STORE (of unlike rows, though no piece is moved)",
            NUMBERS, "row(11, 4); keep(3, 3); move(0, 0, 1, 0, 0) = STORE; move(0, 0, 3, 0, 0) = STORE;",
            "move(3, 0, 0, 0, 0) = STORE");
        sentence("STORE (of no row, of unlike rows: ahead of BEYOND)",
            NUMBERS, "thing(1, 1); keep(3, 3); move(0, -1, 1, 0, 1) = STORE; move(0, 0, 1, 9, 1) = STORE;",
            "move(0, 0, 1, 0, -1) = STORE; move(3, -1, 0, 0, 1) = STORE; move(0, 0, 3, -1, 1) = STORE");
        sentence("BEYOND: a place, or n, is below 0",
            NUMBERS, "row(6, 4); keep(3, 3); move(0, -1, 3, 0, 1) = BEYOND; move(0, 0, 3, -1, 1) = BEYOND;",
            "move(0, 0, 3, 0, -1) = BEYOND; move(0, -1, 3, 0, 0) = BEYOND; move(0, 0, 3, -1, 0) = BEYOND;",
            "move(0, 2, 3, 2, -2) = BEYOND; move(0, 0, 0, 0, -1) = BEYOND; move(0, LEAST, 3, 0, 1) = BEYOND;",
            "move(0, 0, 3, LEAST, 1) = BEYOND; move(0, 0, 3, 0, LEAST) = BEYOND;", numbers(3, 6, "0 0 0 0"));
        sentence("or they do not all lie within both (the one from which they come)",
            NUMBERS, "row(6, 12); keep(3, 3); move(0, 0, 3, 0, 5) = BEYOND; move(0, 1, 3, 0, 4) = BEYOND;",
            "move(0, 4, 3, 0, 1) = BEYOND; move(0, 0, 3, 0, 4) = 1; move(0, 3, 3, 0, 1) = 1");
        sentence("or they do not all lie within both (the one into which they come)",
            NUMBERS, "row(6, 12); keep(3, 3); move(3, 0, 0, 0, 5) = BEYOND; move(3, 0, 0, 1, 4) = BEYOND;",
            "move(3, 0, 0, 4, 1) = BEYOND;", numbers(0, 6, "5 6 7 8"), "move(3, 0, 0, 3, 1) = 1;",
            numbers(0, 6, "5 6 7 0"), "move(3, 0, 0, 0, 4) = 1;", numbers(0, 6, "0 0 0 0"));
        sentence("or they do not all lie within both (a wrap-around)",
            NUMBERS,
            "row(6, 4); keep(3, 3); move(0, GREATEST, 3, 0, 1) = BEYOND; move(0, 0, 3, GREATEST, 1) = BEYOND;",
            "move(0, 1, 3, 1, GREATEST) = BEYOND; move(0, 4, 3, 0, GREATEST) = BEYOND;",
            "move(0, GREATEST, 3, GREATEST, GREATEST) = BEYOND; move(0, GREATEST, 0, 0, 0) = BEYOND;",
            "move(0, LEAST, 3, LEAST, LEAST) = BEYOND");
        sentence("or they do not all lie within both (none of them, at the end and above)",
            NUMBERS,
            "row(6, 0); keep(3, 3); move(0, 4, 3, 0, 0) = 1; move(3, 0, 0, 4, 0) = 1; move(3, 0, 3, 0, 0) = 1;",
            "move(0, 5, 3, 0, 0) = BEYOND; move(3, 0, 0, 5, 0) = BEYOND; move(3, 0, 3, 0, 1) = BEYOND");
        sentence("BEYOND (ahead of a piece that is refused)",
            SINGLES, ROWS, FILLED, "move(5, 0, 6, 0, 4) = BEYOND; move(5, 2, 6, 3, 1) = BEYOND;",
            pieces(6, 12, "1 NONE 2"));
        sentence("STORE, if one is not of the kind of which the row is into which it comes",
            SINGLES, ROWS, FILLED,
            "move(5, 2, 6, 0, 1) = STORE; move(5, 1, 7, 0, 1) = STORE; move(5, 0, 9, 0, 1) = STORE;",
            "move(5, 2, 10, 0, 1) = STORE; move(5, 1, 8, 0, 1) = STORE; move(5, 0, 7, 0, 1) = 1;",
            "move(5, 1, 10, 0, 1) = 1; move(6, 0, 5, 2, 1) = 1; count(5) = 5");
        sentence("those ahead of it stay moved",
            SINGLES, ROWS, FILLED, "move(5, 0, 6, 0, 3) = STORE;", pieces(6, 12, "2 1 2"), pieces(5, 11, "2 1 0"),
            "count(5) = 1");
        sentence("those ahead of it stay moved (none behind it is)",
            SINGLES, ROWS, "lay(5, 11, 0, 1); lay(5, 11, 1, 0); lay(5, 11, 2, 2); move(5, 0, 6, 0, 3) = STORE;",
            pieces(6, 12, "1 NONE NONE"));
        sentence("those ahead of it stay moved (the first one is refused)",
            SINGLES, ROWS, FILLED, "lay(5, 11, 0, 0); move(5, 0, 6, 0, 3) = STORE;", pieces(6, 12, "1 NONE 2"));
        sentence("those ahead of it stay moved (to later places of another row, too)",
            SINGLES, ROWS, "row(12, 5); keep(11, 11); lay(5, 11, 0, 1); lay(5, 11, 1, 0); lay(5, 11, 2, 2);",
            "move(5, 0, 11, 2, 3) = STORE;", pieces(11, 12, "NONE NONE 1 NONE NONE"));
        sentence("those ahead of it stay moved (rows of SHELVES)",
            SHEETS, THEIR_ROWS, "lay(2, 17, 0, 9); lay(2, 17, 1, 7); move(2, 0, 3, 0, 2) = STORE;",
            pieces(3, 18, "9 NONE"));
    }

    private static void refusals() {
        sentence("UNKNOWN (no such DRAWER, THING)",
            "thing(1, 7); keep(16, 0) = UNKNOWN; keep(-1, 0) = UNKNOWN; keep(0, 1) = UNKNOWN;",
            "keep(0, -1) = UNKNOWN");
        sentence("the first of these that fits (UNKNOWN ahead of OUTSIDE)",
            SINGLES, ROWS,
            "is(16, 0) = UNKNOWN; size(16, 5) = UNKNOWN; put(16, 5, 0, 0) = UNKNOWN; lay(16, 8, 0, 0) = UNKNOWN;",
            "lay(0, 8, 0, 16) = UNKNOWN; piece(16, 8, 0) = UNKNOWN; pick(16, 8, 0, 0) = UNKNOWN;",
            "pick(0, 8, 0, 16) = UNKNOWN; shine(16, 17) = UNKNOWN");
        sentence("the first of these that fits (OUTSIDE ahead of FULL)",
            "120 x thing(1, 0); thing(0, 0) = OUTSIDE; thing(1, 1000) = OUTSIDE; row(9, 0) = OUTSIDE;",
            "row(6, 13) = OUTSIDE; sheet(11, 0, 0) = OUTSIDE; sheet(9, 7, 0) = OUTSIDE; sheet(9, 0, 7) = OUTSIDE");
        sentence("ahead of FINDINGS (UNKNOWN)",
            SINGLES, ROWS, "lay(15, 11, 9, 16) = UNKNOWN; lay(16, 11, 9, 4) = UNKNOWN; pick(0, 11, 9, 16) = UNKNOWN;",
            "pick(15, 11, 9, -1) = UNKNOWN; move(15, 0, 16, 0, 1) = UNKNOWN; move(16, 0, 15, 0, 1) = UNKNOWN;",
            "move(0, -1, -1, -1, -1) = UNKNOWN; count(2) = 0; count(3) = 0; count(4) = 0; count(5) = 0");
        sentence("ahead of FINDINGS (OUTSIDE)",
            SINGLES, ROWS,
            "size(15, 5) = OUTSIDE; size(0, 20) = OUTSIDE; put(15, 9, 0, 0) = OUTSIDE; put(0, 5, 9, 0) = OUTSIDE;",
            "lay(15, 8, 9, 4) = OUTSIDE; piece(15, 8, 0) = OUTSIDE; pick(0, 20, 9, 1) = OUTSIDE;",
            "shine(15, 10) = OUTSIDE; shine(0, 17) = OUTSIDE; row(6, 13) = OUTSIDE; row(9, -1) = OUTSIDE;",
            "sheet(9, 7, -1) = OUTSIDE; sheet(9, -1, 7) = OUTSIDE; sheet(8, -1, -1) = OUTSIDE; count(2) = 0;",
            "count(3) = 0; count(4) = 0; count(6) = 0");
        sentence("ahead of FINDINGS (FULL)",
            "120 x thing(1, 0); row(6, -1) = FULL; sheet(9, 0, -1) = FULL; sheet(9, 1, -1) = FULL;",
            "sheet(9, -1, 9) = FULL; count(6) = 0");
    }

    private static final String[] REFUSED = {
        "thing(0, 1) = OUTSIDE", "thing(6, 1) = OUTSIDE", "thing(1, -1) = OUTSIDE", "thing(1, 1000) = OUTSIDE",
        "row(9, 1) = OUTSIDE", "row(6, 13) = OUTSIDE", "sheet(11, 1, 1) = OUTSIDE", "sheet(9, 7, 1) = OUTSIDE",
        "sheet(9, 1, 7) = OUTSIDE", "keep(16, 0) = UNKNOWN", "keep(-1, 0) = UNKNOWN", "keep(16, NONE) = UNKNOWN",
        "keep(0, 99) = UNKNOWN", "keep(0, -1) = UNKNOWN", "held(16) = UNKNOWN", "is(16, 1) = UNKNOWN",
        "is(0, 21) = OUTSIDE", "label(16) = UNKNOWN", "weight(16) = UNKNOWN", "light(-1) = UNKNOWN",
        "size(16, 6) = UNKNOWN", "size(6, 5) = OUTSIDE", "put(16, 6, 0, 1) = UNKNOWN", "put(6, 9, 0, 1) = OUTSIDE",
        "number(16, 6, 0) = 0", "number(6, 9, 0) = 0", "number(15, 6, 0) = throws.NullPointerException",
        "number(6, 6, 0) = throws.ClassCastException", "number(11, 6, 9) = throws.ArrayIndexOutOfBoundsException",
        "lay(16, 11, 0, 1) = UNKNOWN", "lay(5, 11, 0, 16) = UNKNOWN", "lay(5, 8, 0, 1) = OUTSIDE",
        "lay(5, 20, 0, 1) = OUTSIDE", "piece(16, 11, 0) = UNKNOWN", "piece(5, 8, 0) = OUTSIDE",
        "pick(16, 11, 0, 1) = UNKNOWN", "pick(5, 11, 0, 16) = UNKNOWN", "pick(5, 20, 0, 1) = OUTSIDE",
        "move(16, 0, 5, 0, 1) = UNKNOWN", "move(5, 0, 16, 0, 1) = UNKNOWN", "shine(16, 11) = UNKNOWN",
        "shine(5, 17) = OUTSIDE", "many(0) = OUTSIDE", "count(7) = OUTSIDE"
    };
    private static final String[][] MET = {
        {
            "weight(15) = NOTHING", "light(15) = NOTHING", "size(15, 6) = NOTHING", "put(15, 6, 0, 1) = NOTHING",
            "lay(15, 11, 0, 1) = NOTHING", "piece(15, 11, 0) = NOTHING", "pick(15, 11, 0, 1) = NOTHING",
            "move(15, 0, 5, 0, 1) = NOTHING", "move(5, 0, 15, 0, 1) = NOTHING", "shine(15, 11) = NOTHING"
        },
        {
            "put(11, 6, 3, 9) = BEYOND", "put(11, 6, -1, 9) = BEYOND", "lay(5, 11, 3, 1) = BEYOND",
            "lay(5, 11, -1, 1) = BEYOND", "piece(5, 11, 3) = BEYOND", "pick(5, 11, 3, 1) = BEYOND",
            "pick(5, 11, -1, 1) = BEYOND", "move(5, 0, 6, 1, 3) = BEYOND", "move(5, 1, 6, 0, 3) = BEYOND",
            "move(5, 0, 6, 0, -1) = BEYOND"
        },
        {
            "weight(4) = CAST", "light(0) = CAST", "size(5, 12) = CAST", "put(11, 7, 0, 9) = CAST",
            "lay(5, 12, 0, 1) = CAST", "lay(5, 11, 0, 4) = CAST", "piece(5, 12, 0) = CAST", "pick(5, 12, 0, 1) = CAST",
            "shine(5, 12) = CAST"
        },
        {
            "lay(6, 11, 1, 0) = STORE", "lay(6, 16, 1, 4) = STORE", "move(5, 2, 6, 1, 1) = STORE",
            "move(0, 0, 5, 0, 1) = STORE", "move(11, 0, 5, 0, 1) = STORE", "move(5, 0, 11, 0, 1) = STORE",
            "move(11, 0, 12, 0, 1) = STORE"
        },
        {
            "row(6, -1) = SIZE", "row(6, LEAST) = SIZE", "sheet(9, -1, 1) = SIZE", "sheet(9, 1, -1) = SIZE",
            "sheet(9, -1, 9) = SIZE"
        }
    };
    /** Behind SINGLES, ROWS and FILLED: ints and bytes of 3 places, 7, 0, 0 and 8, 0, 0. */
    private static final String READINGS =
        "row(6, 3); row(8, 3); keep(11, 11); keep(12, 12); put(11, 6, 0, 7); put(12, 8, 0, 8);";

    private static Run filled(String name) {
        Run run = new Run(name, DUE);
        run.calls(SINGLES + ROWS + FILLED + READINGS);
        return run;
    }

    private static void refusedOnesChangeNothing() {
        String before = filled("before").seen();
        for (String call : REFUSED) {
            String name = "Refused, and nothing changes: " + call;
            Run run = filled(name);
            run.calls(call);
            DUE.same(name, run.counted(), " 0 0 0 0 0");
            DUE.same(name, run.seen(), before);
        }
        for (int finding = 0; finding < MET.length; finding++) {
            for (String call : MET[finding]) {
                String name = "What meets one changes nothing: " + call;
                Run run = filled(name);
                run.calls(call);
                DUE.same(name, run.counted(), once(finding));
                DUE.same(name, run.seen(), before);
            }
        }
        fullChangesNothing();
    }

    /** What Run.counted() tells where one finding was answered once, and no other. */
    private static String once(int finding) {
        StringBuilder text = new StringBuilder();
        for (int i = 0; i < MET.length; i++) {
            text.append(i == finding ? " 1" : " 0");
        }
        return text.toString();
    }

    /** The same with a full hall; no more of it than its last things can be seen within 512 calls. */
    private static void fullChangesNothing() {
        String made = "118 x thing(1, 3); row(6, 1); keep(1, 118); keep(2, 117); put(1, 6, 0, 4);";
        String same = "count(0) = 119; held(1) = 118; held(2) = 117; held(3) = NONE; number(1, 6, 0) = 4;"
            + "size(1, 6) = 1; weight(2) = 3; thing(1, 0) = 119";
        sentence("FULL, and nothing changes: sheet", made, "sheet(9, 1, 1) = FULL;", same);
        String full = "119 x thing(1, 3); row(6, 1); keep(1, 119); keep(2, 118); put(1, 6, 0, 4);";
        String sameFull = "count(0) = 120; held(1) = 119; held(2) = 118; held(3) = NONE; number(1, 6, 0) = 4;"
            + "size(1, 6) = 1; weight(2) = 3";
        sentence("FULL, and nothing changes: thing", full, "thing(2, 9) = FULL;", sameFull);
        sentence("FULL, and nothing changes: row", full, "row(7, 3) = FULL;", sameFull);
        sentence("FULL, and nothing changes: sheet without rows", full, "sheet(9, 3, 9) = FULL;", sameFull);
    }

    private static void newObject() {
        sentence("Promise 1: NOTHING in all DRAWERS",
            "held(0) = NONE; held(1) = NONE; held(2) = NONE; held(3) = NONE; held(4) = NONE; held(5) = NONE;",
            "held(6) = NONE; held(7) = NONE; held(8) = NONE; held(9) = NONE; held(10) = NONE; held(11) = NONE;",
            "held(12) = NONE; held(13) = NONE; held(14) = NONE; held(15) = NONE");
        sentence("Promise 1: a new object has no THINGS, and no FINDING was answered",
            "count(0) = 0; count(1) = 0; count(2) = 0; count(3) = 0; count(4) = 0; count(5) = 0; count(6) = 0;",
            "keep(0, 0) = UNKNOWN; clear() = 0");
        twoObjects();
    }

    private static void twoObjects() {
        Run first = new Run("Promise 1: another object is a new one, too (the first)", DUE);
        first.calls(SINGLES + "weight(15) = NOTHING");
        Run second = new Run("Promise 1: another object is a new one, too (the second)", DUE);
        second.calls("count(0) = 0; count(1) = 0; count(2) = 0; held(0) = NONE; thing(5, 9) = 0; row(6, 1) = 1;");
        second.calls("keep(0, 1)");
        first.calls("count(0) = 5; held(0) = 0; weight(0) = 7; count(2) = 1; count(4) = 0");
    }

    private static void thing() {
        sentence("Promise 2: A THING of FORM 1 to 5",
            "thing(0, 5) = OUTSIDE; thing(1, 5) = 0; thing(2, 5) = 1; thing(3, 5) = 2; thing(4, 5) = 3;",
            "thing(5, 5) = 4; thing(6, 5) = OUTSIDE; thing(-1, 5) = OUTSIDE; thing(20, 5) = OUTSIDE;",
            "thing(LEAST, 5) = OUTSIDE; thing(GREATEST, 5) = OUTSIDE");
        sentence("Promise 2: with a WEIGHT 0 .. 999",
            "thing(1, -1) = OUTSIDE; thing(1, 0) = 0; thing(1, 999) = 1; thing(1, 1000) = OUTSIDE;",
            "thing(1, LEAST) = OUTSIDE; thing(1, GREATEST) = OUTSIDE; keep(0, 0); keep(1, 1); weight(0) = 0;",
            "weight(1) = 999; count(0) = 2");
        sentence("Promise 2: FULL", "119 x thing(5, 1); thing(4, 2) = 119; thing(1, 0) = FULL; thing(5, 999) = FULL");
    }

    private static void row() {
        sentence("Promise 3: A row, FORM 6 to 8, 11 to 16",
            "row(5, 1) = OUTSIDE; row(6, 1) = 0; row(7, 1) = 1; row(8, 1) = 2; row(9, 1) = OUTSIDE;",
            "row(10, 1) = OUTSIDE; row(11, 1) = 3; row(12, 1) = 4; row(13, 1) = 5; row(14, 1) = 6;",
            "row(15, 1) = 7; row(16, 1) = 8; row(17, 1) = OUTSIDE; row(18, 1) = OUTSIDE; row(19, 1) = OUTSIDE;",
            "row(20, 1) = OUTSIDE; row(0, 1) = OUTSIDE; row(-1, 1) = OUTSIDE; row(LEAST, 1) = OUTSIDE;",
            "row(GREATEST, 1) = OUTSIDE");
        sentence("Promise 3: of n places (12 at most)",
            "row(6, 12) = 0; row(6, 13) = OUTSIDE; row(16, 12) = 1; row(16, 13) = OUTSIDE;",
            "row(11, GREATEST) = OUTSIDE; keep(0, 0); keep(1, 1); size(0, 6) = 12; size(1, 16) = 12;",
            "put(0, 6, 11, 3) = 1; put(0, 6, 12, 3) = BEYOND; piece(1, 16, 11) = NONE; piece(1, 16, 12) = BEYOND");
        sentence("Promise 3: of n places (none)",
            "row(6, 0) = 0; row(11, 0) = 1; keep(0, 0); keep(1, 1); size(0, 6) = 0; size(1, 11) = 0;",
            "put(0, 6, 0, 1) = BEYOND; piece(1, 11, 0) = BEYOND; shine(1, 11) = 0");
        sentence("Promise 3: FULL", "119 x row(6, 1); row(11, 12) = 119; row(11, 0) = FULL; row(6, 12) = FULL");
        sentence("Promise 3: SIZE",
            "row(6, -1) = SIZE; row(16, -12) = SIZE; row(11, LEAST) = SIZE; count(0) = 0; count(6) = 3;",
            "row(6, 0) = 0");
    }

    private static void sheet() {
        sentence("Promise 4: A SHEET or SHELF, FORM 9, 10, 17 to 19",
            "sheet(8, 1, 1) = OUTSIDE; sheet(9, 1, 1) = 0; sheet(10, 1, 1) = 2; sheet(11, 1, 1) = OUTSIDE;",
            "sheet(16, 1, 1) = OUTSIDE; sheet(17, 1, 1) = 4; sheet(18, 1, 1) = 6; sheet(19, 1, 1) = 8;",
            "sheet(20, 1, 1) = OUTSIDE; sheet(6, 1, 1) = OUTSIDE; sheet(0, 1, 1) = OUTSIDE;",
            "sheet(-1, 1, 1) = OUTSIDE; sheet(LEAST, 1, 1) = OUTSIDE; sheet(GREATEST, 1, 1) = OUTSIDE");
        sentence("Promise 4: of n rows (6 at most)",
            "sheet(9, 6, 1) = 0; sheet(9, 7, 1) = OUTSIDE; sheet(17, 7, 9) = OUTSIDE;",
            "sheet(19, GREATEST, 1) = OUTSIDE; keep(0, 0); size(0, 9) = 6; piece(0, 9, 5) = 6;",
            "piece(0, 9, 6) = BEYOND");
        sentence("Promise 4: of n rows (none)",
            "sheet(9, 0, 6) = 0; sheet(17, 0, 9) = 1; thing(1, 0) = 2; keep(0, 0); size(0, 9) = 0;",
            "piece(0, 9, 0) = BEYOND; keep(0, 1); size(0, 17) = 0");
        sentence("Promise 4: of m places each (6 at most",
            "sheet(10, 2, 6) = 0; sheet(9, 2, 7) = OUTSIDE; sheet(9, 2, 8) = OUTSIDE; sheet(9, 2, 10) = OUTSIDE;",
            "sheet(9, 2, GREATEST) = OUTSIDE; keep(0, 1); keep(1, 2); size(0, 7) = 6; size(1, 7) = 6;",
            "put(0, 7, 5, 3) = 1; put(0, 7, 6, 3) = BEYOND; number(1, 7, 5) = 0");
        sentence("Promise 4: of m places each (none)",
            "sheet(17, 2, 0) = 0; thing(1, 0) = 3; keep(0, 1); label(0) = 11; size(0, 11) = 0;",
            "piece(0, 11, 0) = BEYOND");
        sentence("Promise 4: 9: NOTHING in place of rows)",
            "sheet(9, 3, 9) = 0; sheet(18, 2, 9) = 1; thing(1, 0) = 2; keep(0, 0); keep(1, 1); size(0, 9) = 3;",
            "size(1, 18) = 2;", pieces(0, 9, "NONE NONE NONE BEYOND"), pieces(1, 18, "NONE NONE BEYOND"));
        sentence("Promise 4: its number; its rows (of 6, 7, 11, 12, 16) have the next ones",
            "thing(1, 0); sheet(9, 2, 1) = 1; sheet(10, 2, 2) = 4; sheet(17, 2, 3) = 7; sheet(18, 2, 4) = 10;",
            "sheet(19, 2, 5) = 13; count(0) = 16; keep(0, 1); keep(1, 4); keep(2, 7); keep(3, 10); keep(4, 13);",
            pieces(0, 9, "2 3"), pieces(1, 10, "5 6"), pieces(2, 17, "8 9"), pieces(3, 18, "11 12"),
            pieces(4, 19, "14 15"),
            "keep(0, 3); keep(1, 6); keep(2, 9); keep(3, 12); keep(4, 15); size(0, 6) = 1; size(1, 7) = 2;",
            "size(2, 11) = 3; size(3, 12) = 4; size(4, 16) = 5; label(2) = 11; label(3) = 12; label(4) = 16");
        sentence("Promise 4: OUTSIDE: n, m above",
            "sheet(9, 7, 0) = OUTSIDE; sheet(9, 0, 7) = OUTSIDE; sheet(9, 7, -1) = OUTSIDE;",
            "sheet(9, -1, 7) = OUTSIDE; sheet(9, -1, 10) = OUTSIDE; count(6) = 0");
        sentence("Promise 4: FULL: 1 and n (without rows 1) would not go in",
            "114 x thing(1, 0); sheet(9, 6, 1) = FULL; count(0) = 114; sheet(9, 5, 1) = 114;", "sheet(9, 0, 1) = FULL");
        sentence("Promise 4: FULL: 1 and n (just so)",
            "113 x thing(1, 0); sheet(19, 6, 6) = 113; count(0) = 120; keep(0, 119); label(0) = 16;",
            "size(0, 16) = 6");
        sentence("Promise 4: FULL (without rows 1)",
            "119 x thing(1, 0); sheet(9, 1, 1) = FULL; sheet(9, 6, 9) = 119; sheet(9, 6, 9) = FULL;",
            "sheet(9, 0, 9) = FULL");
        sentence("Promise 4: FULL (no rows)", "119 x thing(1, 0); sheet(9, 0, 6) = 119; sheet(9, 0, 6) = FULL");
        sentence("Promise 4: SIZE: n, m below 0",
            "sheet(9, -1, 1) = SIZE; sheet(9, 1, -1) = SIZE; sheet(17, -1, -1) = SIZE; sheet(18, 0, -1) = SIZE;",
            "sheet(19, -1, 9) = SIZE; sheet(10, -6, 0) = SIZE; sheet(9, LEAST, LEAST) = SIZE;",
            "sheet(9, LEAST, 9) = SIZE; sheet(9, 6, LEAST) = SIZE; count(0) = 0; count(6) = 9");
        // By the document's words 1 and -1 go in where 1 alone would not.
        sentence("Promise 4: FULL: 1 and n (n below 0)",
            "120 x thing(1, 0); sheet(9, -1, 1) = SIZE; sheet(9, LEAST, 1) = SIZE; sheet(9, -1, 9) = FULL");
    }

    private static void keepAndHeld() {
        sentence("Promise 5: A DRAWER holds a THING",
            "thing(1, 0); thing(2, 0); keep(0, 1) = NONE; held(0) = 1; keep(0, 0) = 1; held(0) = 0;",
            "keep(0, 0) = 0; held(0) = 0");
        sentence("Promise 5: (NONE: NOTHING)",
            "thing(1, 0); keep(0, NONE) = NONE; keep(0, 0); keep(0, NONE) = 0; held(0) = NONE; count(1) = 0;",
            "count(0) = 1; keep(0, 0) = NONE");
        sentence("Promise 5: what it held (NONE)",
            "thing(1, 0); keep(15, 0) = NONE; keep(14, 0) = NONE; keep(15, NONE) = 0; keep(15, NONE) = NONE");
        sentence("Promise 5: UNKNOWN (a DRAWER)",
            "thing(1, 0); keep(-1, 0) = UNKNOWN; keep(16, 0) = UNKNOWN; keep(LEAST, 0) = UNKNOWN;",
            "keep(GREATEST, 0) = UNKNOWN; keep(16, NONE) = UNKNOWN; count(1) = 0");
        sentence("Promise 5: UNKNOWN (a THING)",
            "keep(0, 0) = UNKNOWN; thing(1, 0); keep(0, 0); keep(0, 1) = UNKNOWN; keep(0, -1) = UNKNOWN;",
            "keep(0, -4) = UNKNOWN; keep(0, -6) = UNKNOWN; keep(0, 119) = UNKNOWN; keep(0, 120) = UNKNOWN;",
            "keep(0, LEAST) = UNKNOWN; keep(0, GREATEST) = UNKNOWN; held(0) = 0");
        sentence("Promise 5: UNKNOWN (a THING of 120)",
            "120 x thing(1, 0); keep(0, 119) = NONE; keep(0, 120) = UNKNOWN; held(0) = 119");
        sentence("Promise 6: The number of what a DRAWER holds; NONE",
            "thing(1, 0); row(6, 1); keep(3, 1); held(3) = 1; held(2) = NONE; keep(3, NONE); held(3) = NONE");
        sentence("Promise 6: UNKNOWN",
            "held(-1) = UNKNOWN; held(16) = UNKNOWN; held(LEAST) = UNKNOWN; held(GREATEST) = UNKNOWN");
    }

    private static void isAndMany() {
        sentence("Promise 7: Whether what a DRAWER holds IS of a KIND (1 .. 20)",
            SINGLES, "is(0, 0) = OUTSIDE; is(0, 1) = 1; is(1, 20) = 1; is(0, 20) = 0; is(0, 21) = OUTSIDE;",
            "is(0, -1) = OUTSIDE; is(0, LEAST) = OUTSIDE; is(0, GREATEST) = OUTSIDE; is(15, 0) = OUTSIDE");
        sentence("Promise 7: 1, 0 (no FINDING)",
            SINGLES, "is(0, 6) = 0; is(15, 1) = 0; is(4, 1) = 0; count(2) = 0; count(4) = 0");
        sentence("Promise 7: UNKNOWN",
            "is(-1, 1) = UNKNOWN; is(16, 1) = UNKNOWN; is(LEAST, 1) = UNKNOWN; is(GREATEST, 21) = UNKNOWN");
        sentence("Promise 8: LABEL. UNKNOWN",
            "label(-1) = UNKNOWN; label(16) = UNKNOWN; label(LEAST) = UNKNOWN; label(GREATEST) = UNKNOWN;",
            "label(0) = 0; label(15) = 0");
        sentence("Promise 19: How many DRAWERS hold what IS of a KIND (1 .. 20)",
            SINGLES, ROWS,
            "many(0) = OUTSIDE; many(1) = 4; many(2) = 2; many(3) = 1; many(4) = 1; many(5) = 1; many(6) = 0;",
            "many(11) = 4; many(12) = 2; many(16) = 4; many(17) = 0; many(20) = 3; many(21) = OUTSIDE;",
            "many(-1) = OUTSIDE; many(LEAST) = OUTSIDE; many(GREATEST) = OUTSIDE");
        sentence("Promise 19: How many DRAWERS (none, all, the same THING in each)",
            "many(1) = 0; many(20) = 0; thing(3, 0); keep(0, 0); keep(1, 0); keep(2, 0); keep(3, 0); keep(4, 0);",
            "keep(5, 0); keep(6, 0); keep(7, 0); keep(8, 0); keep(9, 0); keep(10, 0); keep(11, 0); keep(12, 0);",
            "keep(13, 0); keep(14, 0); keep(15, 0); many(1) = 16; many(3) = 16; many(20) = 16; many(4) = 0;",
            "keep(0, NONE); many(3) = 15; keep(15, NONE); many(3) = 14");
    }

    private static void weightAndLight() {
        sentence("Promise 9: WEIGHT of what a DRAWER holds, taken as a STONE",
            "thing(1, 0); thing(2, 999); thing(3, 10); thing(4, 1); keep(0, 0); keep(1, 1); keep(2, 2);",
            "keep(3, 3); weight(0) = 0; weight(1) = 999; weight(2) = 10; weight(3) = 1");
        sentence("Promise 9: UNKNOWN",
            "weight(-1) = UNKNOWN; weight(16) = UNKNOWN; weight(LEAST) = UNKNOWN; weight(GREATEST) = UNKNOWN;",
            "count(2) = 0");
        sentence("Promise 9: CAST",
            SINGLES, "row(11, 2); keep(5, 5); weight(4) = CAST; weight(5) = CAST; count(4) = 2");
        sentence("Promise 9: NOTHING",
            SINGLES, "weight(5) = NOTHING; keep(0, NONE); weight(0) = NOTHING; count(2) = 2");
        sentence("Promise 10: LIGHT of what a DRAWER holds, taken as what SHINES",
            SINGLES, "light(1) = 4; light(2) = 11; light(4) = 12");
        sentence("Promise 10: UNKNOWN",
            "light(-1) = UNKNOWN; light(16) = UNKNOWN; light(LEAST) = UNKNOWN; light(GREATEST) = UNKNOWN;",
            "count(2) = 0");
        sentence("Promise 10: CAST",
            SINGLES, "row(16, 2); keep(5, 5); light(0) = CAST; light(3) = CAST; light(5) = CAST; count(4) = 3");
        sentence("Promise 10: NOTHING", SINGLES, "light(5) = NOTHING; keep(1, NONE); light(1) = NOTHING; count(2) = 2");
    }

    private static void size() {
        sentence("Promise 11: How many places what a DRAWER holds has",
            "row(6, 0); row(8, 12); sheet(9, 6, 0); sheet(19, 4, 9); keep(0, 0); keep(1, 1); keep(2, 2);",
            "keep(3, 9); size(0, 6) = 0; size(1, 8) = 12; size(2, 9) = 6; size(3, 19) = 4");
        sentence("Promise 11: taken as a KIND 6 .. 19",
            SINGLES, ROWS, "size(5, 5) = OUTSIDE; size(5, 6) = CAST; size(5, 19) = CAST; size(5, 20) = OUTSIDE;",
            "size(5, 0) = OUTSIDE; size(5, -1) = OUTSIDE; size(5, 21) = OUTSIDE; size(5, LEAST) = OUTSIDE;",
            "size(5, GREATEST) = OUTSIDE; size(7, 11) = 3; size(7, 12) = 3; size(7, 13) = 3; size(7, 16) = 3;",
            "size(7, 14) = CAST");
        sentence("Promise 11: UNKNOWN",
            "size(-1, 6) = UNKNOWN; size(16, 6) = UNKNOWN; size(LEAST, 6) = UNKNOWN; size(GREATEST, 6) = UNKNOWN");
        sentence("Promise 11: CAST",
            SHEETS, THEIR_ROWS, "size(0, 10) = CAST; size(0, 6) = CAST; size(2, 11) = CAST; size(2, 18) = CAST;",
            "size(5, 7) = CAST; size(5, 9) = CAST; size(7, 17) = CAST; thing(5, 1) = 11; keep(0, 11);",
            "size(0, 15) = CAST; size(0, 16) = CAST; count(4) = 9");
        sentence("Promise 11: NOTHING", "size(0, 6) = NOTHING; size(15, 19) = NOTHING; count(2) = 2");
    }

    private static void put() {
        sentence("Promise 12: becomes v (its lowest 32",
            "row(6, 1); keep(0, 0); put(0, 6, 0, 2147483647) = 1; number(0, 6, 0) = 2147483647;",
            "put(0, 6, 0, 2147483648) = 1; number(0, 6, 0) = -2147483648; put(0, 6, 0, -2147483649) = 1;",
            "number(0, 6, 0) = 2147483647; put(0, 6, 0, 4294967296) = 1; number(0, 6, 0) = 0;",
            "put(0, 6, 0, 4294967295) = 1; number(0, 6, 0) = -1; put(0, 6, 0, -9223372036854775808) = 1;",
            "number(0, 6, 0) = 0; put(0, 6, 0, 9223372036854775807) = 1; number(0, 6, 0) = -1");
        sentence("Promise 12: 64",
            "row(7, 1); keep(0, 0); put(0, 7, 0, 9223372036854775807) = 1; number(0, 7, 0) = 9223372036854775807;",
            "put(0, 7, 0, -9223372036854775808) = 1; number(0, 7, 0) = -9223372036854775808;",
            "put(0, 7, 0, 4294967296) = 1; number(0, 7, 0) = 4294967296");
        sentence("Promise 12: 8 bits)",
            "row(8, 1); keep(0, 0); put(0, 8, 0, 127) = 1; number(0, 8, 0) = 127; put(0, 8, 0, 128) = 1;",
            "number(0, 8, 0) = -128; put(0, 8, 0, -129) = 1; number(0, 8, 0) = 127; put(0, 8, 0, 255) = 1;",
            "number(0, 8, 0) = -1; put(0, 8, 0, 256) = 1; number(0, 8, 0) = 0; put(0, 8, 0, -128) = 1;",
            "number(0, 8, 0) = -128; put(0, 8, 0, -9223372036854775808) = 1; number(0, 8, 0) = 0;",
            "put(0, 8, 0, 9223372036854775807) = 1; number(0, 8, 0) = -1");
        sentence("Promise 12: Place i of a row of numbers (and no other)",
            NUMBERS, "put(0, 6, 0, 50); put(0, 6, 3, 80);", numbers(0, 6, "50 6 7 80"), numbers(1, 7, "5 6 7 8"));
        sentence("Promise 12: taken as a KIND 6 .. 8",
            NUMBERS, "put(0, 5, 0, 1) = OUTSIDE; put(0, 6, 0, 1) = 1; put(1, 7, 0, 1) = 1; put(2, 8, 0, 1) = 1;",
            "put(0, 9, 0, 1) = OUTSIDE; put(0, 0, 0, 1) = OUTSIDE; put(0, 20, 0, 1) = OUTSIDE;",
            "put(0, LEAST, 0, 1) = OUTSIDE; put(0, GREATEST, 0, 1) = OUTSIDE");
        sentence("Promise 12: UNKNOWN",
            NUMBERS, "put(-1, 6, 0, 1) = UNKNOWN; put(16, 6, 0, 1) = UNKNOWN; put(LEAST, 6, 0, 1) = UNKNOWN;",
            "put(GREATEST, 6, 0, 1) = UNKNOWN");
        sentence("Promise 12: CAST",
            NUMBERS,
            "sheet(9, 1, 1); keep(3, 3); put(0, 7, 0, 1) = CAST; put(1, 6, 0, 1) = CAST; put(2, 6, 0, 1) = CAST;",
            "put(0, 8, 0, 1) = CAST; put(3, 6, 0, 1) = CAST;", numbers(0, 6, "5 6 7 8"));
        sentence("Promise 12: CAST (ahead of BEYOND)",
            NUMBERS, "put(0, 7, 4, 1) = CAST; put(0, 7, -1, 1) = CAST; count(4) = 2; count(3) = 0");
        sentence("Promise 12: NOTHING",
            NUMBERS, "put(15, 6, 0, 1) = NOTHING; put(15, 8, -1, 1) = NOTHING; count(2) = 2");
        sentence("Promise 12: BEYOND",
            NUMBERS, "put(0, 6, -1, 1) = BEYOND; put(0, 6, 4, 1) = BEYOND; put(0, 6, LEAST, 1) = BEYOND;",
            "put(0, 6, GREATEST, 1) = BEYOND; count(3) = 4;", numbers(0, 6, "5 6 7 8"), numbers(1, 7, "5 6 7 8"));
    }

    private static void number() {
        sentence("Promise 13: Place i of a row of numbers, taken as a KIND 6 .. 8",
            NUMBERS, numbers(0, 6, "5 6 7 8"), numbers(1, 7, "5 6 7 8"), numbers(2, 8, "5 6 7 8"));
        sentence("Promise 13: 0: UNKNOWN",
            NUMBERS,
            "number(-1, 6, 0) = 0; number(16, 6, 0) = 0; number(LEAST, 6, 0) = 0; number(GREATEST, 6, -1) = 0");
        sentence("Promise 13: 0: OUTSIDE",
            NUMBERS, "number(0, 5, 0) = 0; number(0, 9, 0) = 0; number(0, 0, 0) = 0; number(0, 20, 0) = 0;",
            "number(15, 9, -1) = 0; number(0, LEAST, 0) = 0; number(0, GREATEST, 0) = 0");
        sentence("Promise 13: ClassCastException: CAST",
            NUMBERS,
            "thing(1, 5); keep(3, 3); sheet(9, 1, 1); keep(4, 4); number(0, 7, 0) = throws.ClassCastException;",
            "number(1, 8, 0) = throws.ClassCastException; number(2, 6, 0) = throws.ClassCastException;",
            "number(3, 6, 0) = throws.ClassCastException; number(4, 6, 0) = throws.ClassCastException;",
            "number(0, 7, 4) = throws.ClassCastException");
        sentence("Promise 13: NullPointerException: NOTHING",
            "number(0, 6, 0) = throws.NullPointerException; number(15, 7, 0) = throws.NullPointerException;",
            "number(0, 8, -1) = throws.NullPointerException");
        sentence("Promise 13: ArrayIndexOutOfBoundsException: BEYOND",
            NUMBERS, "row(6, 0); keep(3, 3); number(0, 6, -1) = throws.ArrayIndexOutOfBoundsException;",
            "number(0, 6, 4) = throws.ArrayIndexOutOfBoundsException;",
            "number(3, 6, 0) = throws.ArrayIndexOutOfBoundsException;",
            "number(0, 6, LEAST) = throws.ArrayIndexOutOfBoundsException;",
            "number(0, 6, GREATEST) = throws.ArrayIndexOutOfBoundsException");
    }

    private static void lay() {
        sentence("Promise 14: Place i of a row becomes what another DRAWER holds",
            SINGLES, ROWS, "lay(5, 11, 0, 0) = 1; lay(5, 11, 2, 3) = 1;", pieces(5, 11, "0 NONE 3"),
            "lay(5, 11, 0, 1) = 1;", pieces(5, 11, "1 NONE 3"), "held(0) = 0; held(1) = 1");
        sentence("Promise 14: taken as a KIND 9 .. 19",
            SINGLES, ROWS, "lay(5, 8, 0, 0) = OUTSIDE; lay(5, 9, 0, 0) = CAST; lay(5, 19, 0, 0) = CAST;",
            "lay(5, 20, 0, 0) = OUTSIDE; lay(5, 0, 0, 0) = OUTSIDE; lay(5, -1, 0, 0) = OUTSIDE;",
            "lay(5, LEAST, 0, 0) = OUTSIDE; lay(5, GREATEST, 0, 0) = OUTSIDE");
        sentence("Promise 14: taken as that of which the KIND is a row",
            SINGLES, ROWS, "lay(7, 11, 0, 2) = 1; lay(7, 12, 1, 2) = 1; lay(7, 16, 2, 2) = 1; lay(7, 13, 0, 2) = 1;",
            "lay(7, 13, 0, 1) = CAST; lay(7, 12, 0, 0) = CAST; lay(7, 11, 0, 4) = CAST; lay(7, 16, 0, 3) = CAST");
        sentence("Promise 14: (INTS, LONGS of SHEETS",
            SHEETS, THEIR_ROWS,
            "lay(0, 9, 0, 5) = 1; lay(0, 9, 0, 6) = CAST; lay(1, 10, 0, 6) = 1; lay(1, 10, 0, 5) = CAST;",
            "lay(0, 9, 1, 0) = CAST; piece(0, 9, 0) = 5; piece(1, 10, 0) = 6");
        sentence("Promise 14: rows of SHELVES)",
            SHEETS, THEIR_ROWS,
            "lay(2, 17, 0, 7) = 1; lay(2, 17, 1, 9) = 1; lay(2, 17, 0, 10) = CAST; lay(3, 18, 0, 8) = 1;",
            "lay(3, 18, 0, 7) = CAST; lay(3, 19, 1, 9) = 1; lay(4, 19, 0, 10) = 1; lay(4, 19, 1, 8) = 1;",
            "lay(4, 19, 0, 7) = CAST; lay(4, 19, 0, 4) = CAST;", pieces(2, 17, "7 9"), pieces(3, 18, "8 9"),
            pieces(4, 19, "10 8"));
        sentence("Promise 14: UNKNOWN: both",
            SINGLES, ROWS, "lay(-1, 11, 0, 0) = UNKNOWN; lay(16, 11, 0, 0) = UNKNOWN; lay(5, 11, 0, -1) = UNKNOWN;",
            "lay(5, 11, 0, 16) = UNKNOWN; lay(5, 11, 0, LEAST) = UNKNOWN; lay(GREATEST, 11, 0, 0) = UNKNOWN;",
            "piece(5, 11, 0) = NONE");
        sentence("Promise 14: CAST: the first, then the other DRAWER",
            SINGLES, ROWS,
            "lay(0, 11, 0, 0) = CAST; lay(5, 12, 0, 1) = CAST; lay(5, 11, 0, 4) = CAST; lay(4, 11, 0, 4) = CAST;",
            "lay(4, 11, 0, 15) = CAST; count(4) = 5");
        sentence("Promise 14: CAST (ahead of NOTHING, BEYOND, STORE)",
            SINGLES, ROWS, "lay(15, 11, 0, 4) = CAST; lay(5, 11, 9, 4) = CAST; lay(6, 11, -1, 4) = CAST;",
            "lay(0, 11, -1, 15) = CAST; count(2) = 0; count(3) = 0; count(5) = 0");
        sentence("Promise 14: NOTHING: the first one",
            SINGLES, ROWS, "lay(15, 11, 0, 0) = NOTHING; lay(15, 11, -1, 0) = NOTHING; lay(15, 11, 0, 14) = NOTHING;",
            "lay(5, 11, 0, 15) = 1; count(2) = 3; count(3) = 0");
        sentence("Promise 14: BEYOND",
            SINGLES, ROWS, "lay(5, 11, -1, 0) = BEYOND; lay(5, 11, 3, 0) = BEYOND; lay(5, 11, LEAST, 0) = BEYOND;",
            "lay(5, 11, GREATEST, 0) = BEYOND; lay(5, 11, 3, 15) = BEYOND; count(3) = 5;",
            pieces(5, 11, "NONE NONE NONE"));
        sentence("Promise 14: BEYOND (ahead of STORE)",
            SINGLES, ROWS,
            "lay(6, 11, 3, 0) = BEYOND; lay(6, 11, -1, 0) = BEYOND; lay(6, 11, 2, 0) = STORE; count(3) = 2;",
            "count(5) = 1");
        sentence("Promise 14: STORE",
            SINGLES, ROWS, FILLED, "lay(6, 11, 0, 0) = STORE; lay(6, 16, 0, 4) = STORE; lay(6, 11, 0, 3) = STORE;",
            pieces(6, 12, "1 NONE 2"), "count(5) = 3");
        sentence("Promise 14: STORE (rows of SHELVES)",
            SHEETS, THEIR_ROWS,
            "lay(3, 17, 0, 7) = STORE; lay(3, 19, 0, 10) = STORE; lay(3, 17, 0, 8) = 1; lay(3, 17, 1, 9) = 1;",
            "lay(3, 17, 0, 15) = 1; piece(3, 18, 0) = NONE");
        sentence("Promise 14: another DRAWER (the same one)",
            SHEETS, THEIR_ROWS, "lay(7, 11, 0, 7) = CAST; lay(2, 17, 0, 2) = CAST; lay(0, 9, 0, 0) = CAST");
    }

    private static void piece() {
        sentence("Promise 15: The number of what is at place i of a row; NONE",
            SINGLES, ROWS, FILLED, pieces(5, 11, "2 1 0"), pieces(6, 12, "1 NONE 2"), pieces(6, 11, "1 NONE 2"),
            pieces(6, 16, "1 NONE 2"));
        sentence("Promise 15: taken as a KIND 9 .. 19",
            SINGLES, ROWS,
            "piece(5, 8, 0) = OUTSIDE; piece(5, 9, 0) = CAST; piece(5, 19, 0) = CAST; piece(5, 20, 0) = OUTSIDE;",
            "piece(5, 0, 0) = OUTSIDE; piece(5, LEAST, 0) = OUTSIDE; piece(5, GREATEST, 0) = OUTSIDE");
        sentence("Promise 15: UNKNOWN",
            "piece(-1, 11, 0) = UNKNOWN; piece(16, 11, 0) = UNKNOWN; piece(LEAST, 11, 0) = UNKNOWN;",
            "piece(GREATEST, 11, 0) = UNKNOWN");
        sentence("Promise 15: CAST",
            SHEETS, THEIR_ROWS, "piece(7, 12, 0) = CAST; piece(7, 17, 0) = CAST; piece(0, 10, 0) = CAST;",
            "piece(2, 11, 0) = CAST; piece(2, 18, 0) = CAST; thing(1, 1) = 11; keep(0, 11); piece(0, 11, 0) = CAST;",
            "count(4) = 6");
        sentence("Promise 15: CAST (ahead of BEYOND)",
            SHEETS, THEIR_ROWS, "piece(7, 12, 1) = CAST; piece(7, 12, -1) = CAST; piece(0, 10, 2) = CAST;",
            "count(3) = 0");
        sentence("Promise 15: CAST (of a row of numbers)",
            NUMBERS, "piece(0, 9, 0) = CAST; piece(1, 10, 0) = CAST; piece(2, 11, 0) = CAST");
        sentence("Promise 15: NOTHING", "piece(0, 11, 0) = NOTHING; piece(15, 9, -1) = NOTHING; count(2) = 2");
        sentence("Promise 15: BEYOND",
            SINGLES, ROWS, "piece(5, 11, -1) = BEYOND; piece(5, 11, 3) = BEYOND; piece(5, 11, LEAST) = BEYOND;",
            "piece(5, 11, GREATEST) = BEYOND; count(3) = 4");
    }

    private static void pick() {
        sentence("Promise 16: What is at place i of a row comes into another DRAWER",
            SINGLES, ROWS, FILLED,
            "pick(5, 11, 2, 15) = 0; held(15) = 0; pick(5, 11, 0, 15) = 2; held(15) = 2; held(5) = 5;",
            "count(1) = 12");
        sentence("Promise 16: and NOTHING in its place",
            SINGLES, ROWS, FILLED, "pick(5, 11, 1, 15) = 1;", pieces(5, 11, "2 NONE 0"));
        sentence("Promise 16: its number; NONE",
            SINGLES, ROWS, FILLED,
            "pick(6, 12, 0, 15) = 1; pick(6, 12, 0, 15) = NONE; held(15) = NONE; pick(6, 12, 1, 0) = NONE;",
            "held(0) = NONE; count(2) = 0");
        sentence("Promise 16: another DRAWER (the same one)",
            SINGLES, ROWS, FILLED, "pick(5, 11, 0, 5) = 2; held(5) = 2; keep(5, 5) = 2;", pieces(5, 11, "NONE 1 0"));
        sentence("Promise 16: taken as a KIND 9 .. 19",
            SINGLES, ROWS, "pick(5, 8, 0, 15) = OUTSIDE; pick(5, 9, 0, 15) = CAST; pick(5, 19, 0, 15) = CAST;",
            "pick(5, 20, 0, 15) = OUTSIDE; pick(5, 0, 0, 15) = OUTSIDE; pick(5, LEAST, 0, 15) = OUTSIDE;",
            "pick(5, GREATEST, 0, 15) = OUTSIDE");
        sentence("Promise 16: taken as a KIND (a wider one)",
            SINGLES, ROWS, FILLED, "pick(6, 11, 0, 15) = 1; pick(6, 16, 2, 15) = 2;", pieces(6, 12, "NONE NONE NONE"));
        sentence("Promise 16: taken as a KIND (SHEETS, SHELVES)",
            "sheet(9, 1, 1); sheet(10, 1, 1); sheet(18, 1, 1); keep(0, 0); keep(1, 2); keep(2, 4);",
            "pick(0, 9, 0, 15) = 1; pick(1, 10, 0, 15) = 3; pick(2, 17, 0, 15) = 5; label(15) = 12;",
            "piece(2, 18, 0) = NONE");
        sentence("Promise 16: UNKNOWN: both",
            SINGLES, ROWS, FILLED,
            "pick(-1, 11, 0, 15) = UNKNOWN; pick(16, 11, 0, 15) = UNKNOWN; pick(5, 11, 0, -1) = UNKNOWN;",
            "pick(5, 11, 0, 16) = UNKNOWN; pick(5, 11, 0, GREATEST) = UNKNOWN; pick(LEAST, 11, 0, 15) = UNKNOWN;",
            pieces(5, 11, "2 1 0"));
        sentence("Promise 16: CAST",
            SINGLES, ROWS, FILLED,
            "pick(5, 12, 0, 15) = CAST; pick(5, 12, 3, 15) = CAST; pick(0, 11, 0, 15) = CAST; count(4) = 3;",
            "held(15) = NONE;", pieces(5, 11, "2 1 0"));
        sentence("Promise 16: NOTHING",
            SINGLES, "pick(15, 11, 0, 0) = NOTHING; pick(15, 9, -1, 0) = NOTHING; pick(15, 9, 0, 15) = NOTHING;",
            "held(0) = 0; count(2) = 3");
        sentence("Promise 16: BEYOND",
            SINGLES, ROWS, FILLED,
            "pick(5, 11, -1, 0) = BEYOND; pick(5, 11, 3, 0) = BEYOND; pick(5, 11, LEAST, 0) = BEYOND;",
            "pick(5, 11, GREATEST, 0) = BEYOND; held(0) = 0; count(3) = 4;", pieces(5, 11, "2 1 0"));
    }

    private static void move() {
        sentence("Promise 17: from place a of what a DRAWER holds to place b of what another one holds: 1",
            SINGLES, ROWS, FILLED, "move(5, 0, 6, 1, 2) = 1;", pieces(6, 12, "1 2 1"), pieces(5, 11, "2 1 0"));
        sentence("Promise 17: n pieces (none)",
            SINGLES, ROWS, FILLED, "move(5, 2, 6, 0, 0) = 1; move(5, 0, 9, 0, 0) = 1; move(5, 3, 6, 3, 0) = 1;",
            pieces(6, 12, "1 NONE 2"), "count(3) = 0; count(5) = 0");
        sentence("Promise 17: n pieces (12, all)",
            "row(6, 12); row(6, 12); keep(0, 0); keep(1, 1); put(0, 6, 0, 1); put(0, 6, 11, 2);",
            "move(0, 0, 1, 0, 12) = 1; number(1, 6, 0) = 1; number(1, 6, 11) = 2; number(1, 6, 5) = 0;",
            "move(0, 0, 1, 0, 13) = BEYOND");
        sentence("Promise 17: UNKNOWN: both",
            SINGLES, ROWS,
            "move(-1, 0, 5, 0, 0) = UNKNOWN; move(16, 0, 5, 0, 0) = UNKNOWN; move(5, 0, -1, 0, 0) = UNKNOWN;",
            "move(5, 0, 16, 0, 0) = UNKNOWN; move(LEAST, 0, GREATEST, 0, 0) = UNKNOWN");
        sentence("Promise 17: NOTHING, STORE, BEYOND (in this order)",
            SINGLES, ROWS, FILLED,
            "move(15, -1, 0, -1, -1) = NOTHING; move(0, -1, 5, -1, -1) = STORE; move(5, -1, 6, -1, -1) = BEYOND;",
            "move(5, 0, 6, 0, 3) = STORE; count(2) = 1; count(3) = 1; count(5) = 2");
    }

    private static void shine() {
        sentence("Promise 18: The sum of LIGHTS of all that SHINES in a row",
            SINGLES, ROWS, FILLED,
            "shine(5, 11) = 15; shine(6, 12) = 15; lay(10, 16, 0, 4); lay(10, 16, 1, 4); lay(10, 16, 2, 2);",
            "shine(10, 16) = 35");
        sentence("Promise 18: The sum (the greatest)",
            "row(15, 12); thing(5, 999); keep(0, 0); keep(1, 1); lay(0, 15, 0, 1); lay(0, 15, 1, 1);",
            "lay(0, 15, 2, 1); lay(0, 15, 3, 1); move(0, 0, 0, 4, 4); move(0, 0, 0, 8, 4); shine(0, 15) = 23976;",
            "shine(0, 16) = 23976");
        sentence("Promise 18: (each piece is asked; one that does not counts 0)",
            SINGLES, ROWS, "lay(5, 11, 0, 0); lay(5, 11, 1, 3); lay(5, 11, 2, 1); shine(5, 11) = 4; lay(8, 14, 0, 3);",
            "shine(8, 14) = 0; shine(8, 11) = 0");
        sentence("Promise 18: in a row (of NOTHING, of no places)",
            SINGLES, ROWS,
            "row(12, 0); keep(11, 11); shine(5, 11) = 0; shine(9, 15) = 0; shine(11, 12) = 0; shine(11, 16) = 0;",
            "count(2) = 0");
        sentence("Promise 18: taken as a KIND 11 .. 16",
            SHEETS, THEIR_ROWS, "shine(7, 10) = OUTSIDE; shine(7, 11) = 0; shine(10, 16) = 0; shine(7, 17) = OUTSIDE;",
            "shine(7, 6) = OUTSIDE; shine(7, 20) = OUTSIDE; shine(7, 0) = OUTSIDE; shine(7, LEAST) = OUTSIDE;",
            "shine(7, GREATEST) = OUTSIDE; shine(2, 17) = OUTSIDE; shine(0, 9) = OUTSIDE");
        sentence("Promise 18: UNKNOWN",
            "shine(-1, 11) = UNKNOWN; shine(16, 11) = UNKNOWN; shine(LEAST, 11) = UNKNOWN;",
            "shine(GREATEST, 11) = UNKNOWN");
        sentence("Promise 18: CAST",
            SINGLES, ROWS,
            "sheet(18, 1, 1); keep(11, 11); shine(5, 12) = CAST; shine(5, 16) = CAST; shine(9, 11) = CAST;",
            "shine(1, 12) = CAST; shine(11, 12) = CAST; count(4) = 5");
        sentence("Promise 18: NOTHING", "shine(0, 11) = NOTHING; shine(15, 16) = NOTHING; count(2) = 2");
    }

    private static void count() {
        sentence("Promise 20: 0 THINGS",
            "count(0) = 0; thing(1, 0); count(0) = 1; sheet(9, 2, 1); count(0) = 4; row(6, 0); count(0) = 5;",
            "keep(0, 0); keep(0, NONE); count(0) = 5");
        sentence("Promise 20: 1 DRAWERS that hold one",
            "count(1) = 0; thing(1, 0); count(1) = 0; keep(0, 0); count(1) = 1; keep(15, 0); count(1) = 2;",
            "keep(0, 0); count(1) = 2; keep(0, NONE); count(1) = 1; keep(15, NONE); count(1) = 0");
        sentence("Promise 20: 2 how often FINDING 1, 3 .. 6 how often 2 .. 5 were answered",
            SINGLES, ROWS, "weight(15) = NOTHING; 2 x piece(5, 11, 3) = BEYOND; 3 x weight(4) = CAST;",
            "4 x lay(6, 11, 0, 0) = STORE; 5 x row(6, -1) = SIZE; count(2) = 1; count(3) = 2; count(4) = 3;",
            "count(5) = 4; count(6) = 5");
        sentence("Promise 20: (number() counts none)",
            NUMBERS, "number(15, 6, 0) = throws.NullPointerException;",
            "number(0, 6, 4) = throws.ArrayIndexOutOfBoundsException;",
            "number(0, 7, 0) = throws.ClassCastException; count(2) = 0; count(3) = 0; count(4) = 0; count(5) = 0;",
            "count(6) = 0");
        sentence("Promise 20: OUTSIDE",
            "count(-1) = OUTSIDE; count(7) = OUTSIDE; count(LEAST) = OUTSIDE; count(GREATEST) = OUTSIDE;",
            "count(-2147483647) = OUTSIDE");
        sentence("Promise 20: how often (what is counted is not counted again)",
            "weight(0) = NOTHING; count(2) = 1; count(2) = 1; count(7) = OUTSIDE; count(2) = 1");
    }

    private static void clear() {
        sentence("Promise 21: All is as at the beginning (THINGS)",
            SINGLES, ROWS,
            "clear(); count(0) = 0; keep(0, 0) = UNKNOWN; row(8, 2) = 0; keep(0, 0) = NONE; label(0) = 8;",
            "keep(0, 1) = UNKNOWN");
        sentence("Promise 21: All is as at the beginning (DRAWERS)",
            SINGLES, ROWS,
            "keep(15, 0); clear(); count(1) = 0; held(0) = NONE; held(10) = NONE; held(15) = NONE; thing(1, 0);",
            "held(0) = NONE");
        sentence("Promise 21: All is as at the beginning (how often FINDINGS were answered)",
            SINGLES, ROWS,
            "weight(15) = NOTHING; piece(5, 11, 3) = BEYOND; weight(4) = CAST; lay(6, 11, 0, 0) = STORE;",
            "row(6, -1) = SIZE; clear(); count(2) = 0; count(3) = 0; count(4) = 0; count(5) = 0; count(6) = 0");
        sentence("Promise 21: All is as at the beginning (rows)",
            SINGLES, ROWS, FILLED, "clear(); 6 x row(11, 3); keep(0, 5);", pieces(0, 11, "NONE NONE NONE"));
        sentence("Promise 21: how many THINGS there were",
            "clear() = 0; thing(1, 0); clear() = 1; clear() = 0; sheet(9, 6, 1); clear() = 7; 120 x thing(1, 0);",
            "clear() = 120; clear() = 0");
        sentence("Promise 21: All is as at the beginning (a full hall)",
            "120 x thing(1, 0); thing(1, 0) = FULL; clear() = 120; thing(1, 0) = 0; 118 x thing(1, 0);",
            "thing(1, 0) = 119; thing(1, 0) = FULL");
    }

    private static void calls() {
        sentence("An object is used for at most 512 calls (all meet a FINDING)",
            "511 x weight(0) = NOTHING; count(2) = 511");
        sentence("An object is used for at most 512 calls (all make)",
            "3 x row(6, 1); 16 x sheet(19, 6, 6); clear() = 115; 17 x sheet(9, 6, 6); row(16, 12) = 119;",
            "400 x sheet(9, 0, 9) = FULL; count(0) = 120");
    }
}
