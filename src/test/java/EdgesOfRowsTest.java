/** Edges of promises 1 to 5 and 40: a new object, rows, the order of refusals. */
public final class EdgesOfRowsTest {
    private static final Edges e = new Edges();
    // one stays outside and never eats: who(0, 2, ..) & 64 tells whether items are 0; so this shore shows what rows hold
    private static final String SHOWS = "s1,1;o1,0;o1,0;z0,1,0;z0,1,0;";

    public static void main(String[] args) {
        newObject();
        terms();
        rows();
        rowCall();
        setCall();
        copyCall();
        dropCall();
        statusCall();
        e.covers("Promise 1", "Promise 2", "Promise 3", "Promise 4", "Promise 5", "Promise 40", "Terms 0.0", "Terms 1.0");
        e.end();
    }

    /** Person 0 stays outside, person 1 stays inside an open place: of 0 nothing fits but 0, of 1 nothing but 1. */
    private static Edges.Used shows(String... calls) {
        Edges.Used x = e.told(SHOWS, "stay(0, 1)", "cross(1)", "stay(1, 1)");
        for (String call : calls) e.answer(x, call);
        return x;
    }

    /** Each item of a row: a figure 0 or 1, or another sign where it is neither. */
    private static void holds(Edges.Used x, int row, String items) {
        for (int i = 0; i < items.length(); i++) {
            e.due(x, "who(0, 0, " + row + ", " + i + ", 1) " + (items.charAt(i) == '0' ? 3 : 0));
            e.due(x, "who(1, 0, " + row + ", " + i + ", 1) " + (items.charAt(i) == '1' ? 3 : 0));
        }
        e.due(x, "who(0, 0, " + row + ", " + items.length() + ", 1) PLACE");
    }

    private static void newObject() {
        e.says("Promise 1", "No SHORE.");
        e.due(e.fresh(), "count(0) 0", "count(1) 0", "count(2) 0", "count(3) 0", "count(4) 0", "count(5) 0", "count(6) 0", "count(7) 0",
            "fault() 0", "status() 0", "trace(0) NONE", "undo() STATE", "days(1) STATE", "first(0) STATE", "falls(1, 0) STATE",
            "drawn(0, 1, 0) STATE", "image(0) STATE", "image(1) STATE", "restore(0) STATE", "restore(1) STATE",
            "cross(0) BAD", "turn(0) BAD", "stay(0, 1) BAD", "round(0) BAD", "fall(0) BAD", "setUp(0) BAD", "gate(0, 0) BAD",
            "person(0, 0) BAD", "ahead(0, 0, 0) BAD", "when(0, 0) BAD", "least(0, 0, 0) BAD", "ways(0, 0, 0) BAD",
            "rounds(0, 0, 1, 0) BAD", "fellows(0) BAD", "homes(0) BAD", "share(0, 0) BAD", "fed(0, 0, 0, 0) BAD", "kind(0) BAD",
            "as(0, 0) BAD", "ask(0, 0) BAD", "row(0, 2, 1) 1", "what(0, 0, 0, 0, 0, 1) BAD", "who(0, 0, 0, 0, 1) BAD", "shore() -1000100");
        e.refusedBare("days(1) STATE", "cross(0) BAD", "turn(0) BAD", "stay(0, 1) BAD", "round(0) BAD", "fall(0) BAD", "setUp(0) BAD",
            "undo() STATE", "image(0) STATE", "restore(0) STATE", "ask(0, 0) BAD", "drawn(9, 9, 0) STATE");
    }

    private static void terms() {
        e.says("Terms 0.0", "Numbers go from 0 on.");
        e.due(e.told(Edges.FIVE), "row(0, 2, 1) 1", "set(0, 0, 5) 5", "gate(0, 0) 2", "gate(4, 0) 4", "gate(5, 0) BAD", "person(0, 4) 9",
            "person(3, 4) 5", "person(4, 4) BAD", "image(0) 1", "ask(0, 0) 2", "trace(0) 11", "as(0, 0) 0", "count(0) 1");
        e.says("Terms 0.0", "All that is divided is cut towards 0, but fractions, told as two numbers in lowest terms (0 is 0 by 1).");
        // of three gates of two people: 2 by 3 of 5 is 3 (and what is over), 1 by 3 of 5 is 1
        Edges.Used x = e.told("s1,9;w1,0;w1,0;j9,1;z0,1,0;z0,1,0;z2,0,0;", "cross(0)", "cross(1)", "stay(1, 1)", "stay(2, 1)", "days(1)");
        e.due(x, "person(0, 2) 3", "person(1, 2) 1", "share(0, 5) 4", "share(1, 5) 1", "share(0, 4) 3", "share(1, 4) 1");
        e.due(x, "cross(2) 0", "fed(2, 1, 0, 0) 0", "fed(2, 1, 0, 1) 1", "fed(2, 1, 5, 0) 1", "fed(2, 1, 5, 1) 2", "fed(2, 1, 8, 0) 4",
            "fed(2, 1, 8, 1) 5", "fed(2, 1, 10, 0) 1", "fed(2, 1, 10, 1) 1", "fed(2, 1, 3, 0) 3", "fed(2, 1, 3, 1) 10");
        e.says("Terms 0.0", "Sets are bits.");
        e.due(x, "homes(0) 3", "homes(1) 1", "homes(2) 0", "fall(0) 1", "fall(2) 5", "count(4) 5", "gate(0, 3) 2");
        refusals();
        e.says("Terms 0.0", "What is refused, or found, changes nothing but status().");
        e.refused("row(0, 2, -1) SIZE", "set(0, 3, 7) PLACE", "set(4, 0, 7) NULL", "copy(0, 0, 1, 0, 1) STORE", "copy(2, 38, 2, 0, 3) PLACE",
            "copy(4, 0, 0, 0, 1) NULL", "drop(4) NULL", "as(0, 5) KIND", "what(0, 0, 0, 0, 3, 1) PLACE", "who(0, 0, 4, 0, 1) NULL",
            "feed(256) BAD", "days(25) BAD", "stay(3, 1) STATE", "fall(1) STATE", "setUp(0) STATE", "restore(0) STATE");
    }

    private static void refusals() {
        e.says("Terms 0.0", "Refusals are answers, the first of these that fits, but as told:"
            + " BAD (a number is not as told; there is no such thing), STATE (as told), FULL (as told), then FINDINGS, of several the first in time:"
            + " -1000010 less 1 NULL (a ROW that is missing), 2 PLACE (no such place of a ROW), 3 KIND (a GATE that is not that),"
            + " 4 SIZE (fewer than none), 5 STORE (ROWS of two LANES).");
        // BAD ahead of STATE
        e.due(e.fresh(), "image(2) BAD", "image(-1) BAD", "restore(2) BAD", "restore(-1) BAD");
        e.due(e.lived(), "stay(3, 2) BAD", "stay(4, 1) BAD", "fall(6) BAD", "setUp(5) BAD", "restore(2) BAD");
        // STATE ahead of BAD where it is told so
        e.due(e.fresh(), "days(0) STATE", "days(25) STATE", "first(2) STATE", "falls(0, 0) STATE", "falls(1, 2) STATE", "drawn(61, 1, 0) STATE",
            "drawn(0, 0, 0) STATE", "drawn(0, 1, 2) STATE");
        // BAD ahead of findings, and of findings NULL, then STORE, then PLACE
        e.due(e.lived(), "row(8, 0, -1) BAD", "row(0, 3, -1) BAD", "set(8, -1, 0) BAD", "copy(8, -1, 4, 0, 1) BAD", "copy(4, -1, 8, 0, 1) BAD",
            "what(5, 0, 0, 4, 0, 1) BAD", "what(0, 0, 0, 4, 0, 13) BAD", "who(4, 0, 4, 0, 1) BAD", "who(0, 0, 4, -1, 0) BAD", "as(5, 2) BAD",
            "set(4, -1, 0) NULL", "copy(4, -1, 0, 0, -1) NULL", "copy(0, -1, 4, 0, -1) NULL", "copy(4, 0, 4, 0, 0) NULL",
            "copy(0, -1, 1, 9, -1) STORE", "copy(0, 9, 0, 0, 1) PLACE", "what(0, 0, 0, 4, -1, 1) NULL", "who(0, 0, 4, -1, 1) NULL");
    }

    private static void rows() {
        e.says("Terms 1.0", "ROWS 0 .. 7 are missing (at first), or have a LANE (0 bytes, 1 shorts, 2 ints) and 0 to 40 ITEMS, 0 at first.");
        Edges.Used x = shows();
        for (int r = 0; r < 8; r++) {
            e.due(x, "set(" + r + ", 0, 1) NULL", "drop(" + r + ") NULL", "count(0) " + r, "row(" + r + ", " + r % 3 + ", 40) 40");
        }
        e.due(x, "count(0) 8", "drop(8) BAD", "drop(-1) BAD", "set(7, 39, 1) 1", "set(7, 40, 1) PLACE");
        // a lane each: 40000 as a byte, a short, an int
        e.due(x, "set(0, 0, 40000) 64", "set(1, 0, 40000) -25536", "set(2, 0, 40000) 40000");
        e.due(x, "row(0, 0, 0) 0", "set(0, 0, 0) PLACE", "copy(0, 0, 3, 0, 0) 0", "row(0, 0, 1) 1", "row(0, 0, 41) BAD");
        holds(shows("row(4, 0, 4)"), 4, "0000");
        Edges.Used full = shows("row(4, 1, 40)");
        e.due(full, "who(0, 0, 4, 0, 12) 3", "who(0, 0, 4, 12, 12) 3", "who(0, 0, 4, 24, 12) 3", "who(0, 0, 4, 36, 4) 3",
            "who(0, 0, 4, 36, 5) PLACE");
    }

    private static void rowCall() {
        e.says("Promise 2", "A ROW of a LANE with n ITEMS, in place of what is there: n.");
        Edges.Used x = shows("row(3, 0, 3)", "set(3, 0, 1)", "set(3, 1, 1)", "set(3, 2, 1)");
        holds(x, 3, "111");
        e.due(x, "row(3, 0, 2) 2");
        holds(x, 3, "00");
        e.due(x, "row(3, 0, 4) 4", "count(0) 1");
        holds(x, 3, "0000");
        e.due(x, "set(3, 0, 128) -128", "row(3, 1, 1) 1", "set(3, 0, 128) 128", "set(3, 0, 32768) -32768", "row(3, 2, 1) 1", "set(3, 0, 32768) 32768",
            "row(3, 2, 0) 0", "set(3, 0, 0) PLACE", "drop(3) 0", "row(3, 2, 40) 40", "drop(3) 40");
        e.says("Promise 2", "BAD: ROW, LANE, n above 40; SIZE.");
        e.due(e.fresh(), "row(0, 0, 0) 0", "row(7, 2, 40) 40", "row(6, 1, 1) 1");
        e.refused("row(-1, 0, 1) BAD", "row(8, 0, 1) BAD", "row(MIN, 0, 1) BAD", "row(MAX, 0, 1) BAD", "row(0, -1, 1) BAD", "row(0, 3, 1) BAD",
            "row(0, MIN, 1) BAD", "row(0, MAX, 1) BAD", "row(0, 0, 41) BAD", "row(2, 2, MAX) BAD", "row(4, 0, 41) BAD",
            "row(0, 0, -1) SIZE", "row(2, 1, MIN) SIZE", "row(4, 0, -1) SIZE", "row(8, 0, -1) BAD", "row(0, 3, -1) BAD");
    }

    private static void setCall() {
        e.says("Promise 3", "ITEM i becomes v, its lowest bits, as many as the LANE has: what it is then.");
        Edges.Used x = shows("row(0, 0, 3)", "row(1, 1, 3)", "row(2, 2, 3)");
        e.due(x, "set(0, 0, 127) 127", "set(0, 0, 128) -128", "set(0, 0, 255) -1", "set(0, 0, 256) 0", "set(0, 0, -128) -128", "set(0, 0, -129) 127",
            "set(0, 0, MIN) 0", "set(0, 0, MAX) -1", "set(0, 0, 32767) -1", "set(0, 0, 383) 127");
        e.due(x, "set(1, 0, 32767) 32767", "set(1, 0, 32768) -32768", "set(1, 0, 65535) -1", "set(1, 0, 65536) 0", "set(1, 0, -32768) -32768",
            "set(1, 0, -32769) 32767", "set(1, 0, MIN) 0", "set(1, 0, MAX) -1", "set(1, 0, 128) 128", "set(1, 0, 255) 255");
        e.due(x, "set(2, 0, MIN) MIN", "set(2, 0, MAX) MAX", "set(2, 0, -1) -1", "set(2, 0, 65536) 65536", "set(2, 0, 0) 0");
        // the lowest bits are what is kept, at that place alone
        e.due(x, "set(0, 1, 257) 1", "set(0, 0, 256) 0", "set(0, 2, 2) 2", "set(1, 2, 65537) 1", "set(1, 0, 257) 257", "set(2, 1, 65537) 65537",
            "set(2, 2, 1) 1");
        holds(x, 0, "01-");
        holds(x, 1, "-01");
        holds(x, 2, "0-1");
        e.says("Promise 3", "BAD: ROW; NULL; PLACE.");
        e.due(e.lived(), "set(0, 0, 9) 9", "set(0, 2, 9) 9", "set(2, 39, 9) 9");
        e.refused("set(-1, 0, 1) BAD", "set(8, 0, 1) BAD", "set(MIN, 0, 1) BAD", "set(MAX, 0, 1) BAD", "set(4, 0, 1) NULL", "set(7, 0, 1) NULL",
            "set(0, -1, 1) PLACE", "set(0, 3, 1) PLACE", "set(2, 40, 1) PLACE", "set(3, 0, 1) PLACE", "set(0, MIN, 1) PLACE", "set(0, MAX, 1) PLACE");
    }

    private static void copyCall() {
        e.says("Promise 4", "n ITEMS of a from i on come to b from j on, as they were ahead: n.");
        Edges.Used x = shows("row(0, 2, 5)", "row(1, 2, 3)", "set(0, 0, 1)", "set(0, 1, 2)", "set(0, 3, 1)");
        holds(x, 0, "1-010");
        e.due(x, "copy(0, 2, 1, 1, 2) 2");
        holds(x, 1, "001");
        e.due(x, "copy(0, 0, 1, 0, 3) 3");
        holds(x, 1, "1-0");
        e.due(x, "copy(1, 0, 0, 2, 3) 3");
        holds(x, 0, "1-1-0");
        // over itself, up and down, and where it is
        e.due(x, "copy(0, 0, 0, 1, 4) 4");
        holds(x, 0, "11-1-");
        e.due(x, "copy(0, 1, 0, 0, 4) 4");
        holds(x, 0, "1-1--");
        e.due(x, "copy(0, 0, 0, 0, 5) 5");
        holds(x, 0, "1-1--");
        // none, at each place that there is, the one behind the last too
        e.due(x, "copy(0, 0, 1, 0, 0) 0", "copy(0, 5, 1, 3, 0) 0", "copy(0, 5, 0, 5, 0) 0", "row(2, 2, 0) 0", "copy(2, 0, 0, 0, 0) 0",
            "copy(0, 0, 2, 0, 0) 0");
        holds(x, 1, "1-0");
        Edges.Used full = shows("row(0, 0, 40)", "row(1, 0, 40)", "set(0, 39, 1)", "set(0, 0, 1)");
        e.due(full, "copy(0, 0, 1, 0, 40) 40", "who(1, 0, 1, 39, 1) 3", "who(1, 0, 1, 0, 1) 3", "who(0, 0, 1, 1, 12) 3",
            "copy(0, 0, 1, 0, 41) PLACE");
        e.says("Promise 4", "BAD: ROWS; NULL; STORE; PLACE (i, j, n below 0, or beyond an end).");
        e.refused("copy(-1, 0, 0, 0, 1) BAD", "copy(8, 0, 0, 0, 1) BAD", "copy(0, 0, -1, 0, 1) BAD", "copy(0, 0, 8, 0, 1) BAD",
            "copy(MIN, 0, MAX, 0, 1) BAD",
            "copy(4, 0, 0, 0, 1) NULL", "copy(0, 0, 4, 0, 1) NULL", "copy(4, 0, 5, 0, 0) NULL", "copy(0, 0, 1, 0, 1) STORE",
            "copy(1, 0, 2, 0, 1) STORE",
            "copy(0, 0, 3, 0, 0) STORE", "copy(0, -1, 0, 0, 1) PLACE", "copy(0, 0, 0, -1, 1) PLACE", "copy(0, 0, 0, 0, -1) PLACE",
            "copy(0, 0, 0, 0, 4) PLACE", "copy(0, 1, 0, 0, 3) PLACE", "copy(0, 0, 0, 1, 3) PLACE", "copy(0, 4, 0, 0, 0) PLACE",
            "copy(0, 0, 0, 4, 0) PLACE",
            "copy(2, 0, 3, 0, 1) PLACE", "copy(3, 0, 2, 0, 1) PLACE", "copy(3, 1, 2, 0, 0) PLACE", "copy(2, 37, 2, 0, 4) PLACE",
            "copy(2, MAX, 2, 0, 1) PLACE", "copy(2, 1, 2, 0, MAX) PLACE", "copy(2, 0, 2, MAX, MAX) PLACE", "copy(2, MIN, 2, 0, MIN) PLACE",
            "copy(2, 0, 2, 0, MIN) PLACE", "copy(2, MAX, 2, MAX, MIN) PLACE", "copy(0, 1, 0, 1, -1) PLACE");
    }

    private static void dropCall() {
        e.says("Promise 5", "A ROW is missing from now on: how many ITEMS it had.");
        Edges.Used x = shows("row(0, 0, 0)", "row(7, 2, 40)", "row(3, 1, 1)", "set(3, 0, 1)");
        e.due(x, "count(0) 3", "drop(0) 0", "count(0) 2", "drop(7) 40", "drop(3) 1", "count(0) 0", "drop(3) NULL", "set(3, 0, 1) NULL",
            "copy(3, 0, 3, 0, 0) NULL", "what(0, 0, 0, 3, 0, 1) NULL", "who(0, 0, 3, 0, 1) NULL", "row(3, 1, 1) 1");
        holds(x, 3, "0");
        e.says("Promise 5", "BAD; NULL.");
        e.refused("drop(-1) BAD", "drop(8) BAD", "drop(MIN) BAD", "drop(MAX) BAD", "drop(4) NULL", "drop(7) NULL");
    }

    private static void statusCall() {
        e.says("Promise 40",
            "Of the latest call with a ROW, or as(), that was not BAD, STATE, FULL: the number of its FINDING; 0: it had none, or there was none.");
        e.due(e.fresh(), "status() 0", "row(8, 0, 0) BAD", "status() 0", "drop(0) NULL", "status() 1", "status() 1");
        String[] findings = {"set(4, 0, 1) NULL", "set(0, 3, 1) PLACE", "as(0, 5) KIND", "row(0, 0, -1) SIZE", "copy(0, 0, 1, 0, 1) STORE"};
        for (int k = 0; k < 5; k++) e.due(e.lived(), findings[k], "status() " + (k + 1), "status() " + (k + 1));
        String[] others = {"drop(4) NULL", "copy(4, 0, 0, 0, 1) NULL", "what(0, 0, 0, 4, 0, 1) NULL", "who(0, 0, 4, 0, 1) NULL",
            "copy(0, 0, 0, 1, 3) PLACE", "what(0, 0, 0, 0, 3, 1) PLACE", "who(0, 0, 0, 3, 1) PLACE"};
        for (String row : others) e.due(e.lived(), row, "status() " + (row.endsWith("NULL") ? 1 : 2));
        // status() is 3 on a shore lived on: calls with a row, and as(), that find nothing make it 0
        String[] fine = {"row(4, 0, 1) 1", "set(0, 0, 1) 1", "copy(0, 0, 0, 0, 1) 1", "drop(0) 3", "what(0, 0, 3, 0, 1, 1) 62",
            "who(3, 0, 0, 1, 1) 3", "as(0, 1) 0"};
        for (String row : fine) e.due(e.lived(), "status() 3", row, "status() 0");
        // what is BAD, STATE, FULL leaves it, and so do calls without a row
        e.due(e.lived(), "row(8, 0, 1) BAD", "set(8, 0, 1) BAD", "copy(8, 0, 0, 0, 1) BAD", "drop(8) BAD", "what(5, 0, 0, 0, 0, 1) BAD",
            "who(0, 3, 0, 0, 1) BAD", "as(0, 6) BAD", "status() 3");
        e.due(e.lived(), "stay(3, 1) STATE", "fall(1) STATE", "setUp(0) STATE", "restore(0) STATE", "days(25) BAD", "status() 3");
        e.due(e.lived(), "feed(115) 3", "fault() 2", "undo() 7", "days(1) 2", "cross(0) 4", "turn(0) 0", "stay(3, 0) 4", "round(0) 1", "fall(0) 3",
            "setUp(0) 2", "gate(0, 0) 2", "person(0, 0) 3", "ahead(0, 0, 0) 3", "when(0, 2) 0", "status() 3");
        e.due(e.lived(), "first(9) BAD", "least(0, 4, 0) 0", "ways(0, 4, 0) 1", "rounds(0, 2, 31, 0) BAD", "falls(31, 0) BAD", "fellows(3) 4",
            "homes(0) 0",
            "share(2, 0) 0", "fed(0, 0, 0, 0) 1", "drawn(0, 1, 0) 0", "image(0) 1", "restore(0) 1", "kind(0) 1", "ask(0, 0) 2", "trace(0) 11",
            "count(0) 4",
            "shore() -1000102", "status() 3");
        Edges.Used full = e.lived();
        for (int i = 3; i <= 100; i++) e.answer(full, "feed(0)");
        e.due(full, "feed(0) FULL", "status() 3");
    }
}
