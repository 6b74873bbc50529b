/** Edges of promises 29 to 34: what was so by dinners, how likely one is fed, years by draws, images. */
public final class EdgesOfDinnersTest {
    private static final Edges e = new Edges();
    // jaws that face out: one is never of the gate one comes to, and pays the toll each day, or goes hungry
    private static final String PAYS_1 = "s1,1;j1,1;j1,1;", PAYS_9 = "s1,9;j1,1;j1,1;", PAYS_30 = "s1,30;j1,1;j1,1;";
    private static final String SIX_POOR = "s1,30;j1,1;j1,1;j1,1;j1,1;j1,1;j1,1;z0,1,0;";

    public static void main(String[] args) {
        dinnersTold();
        whatCall();
        whoCall();
        fedCall();
        drawnCall();
        imageCall();
        restoreCall();
        for (int k = 29; k <= 34; k++) e.covers("Promise " + k);
        e.covers("Terms 3.4", "Terms 3.5");
        e.end();
    }

    private static Edges.Used with(String text, String items, String... calls) {
        Edges.Used x = e.told(text, calls);
        hear(x, items);
        return x;
    }

    /** Row 0 holds figures 0 and 1. */
    private static void hear(Edges.Used x, String items) {
        e.answer(x, "row(0, 0, " + items.length() + ")");
        for (int i = 0; i < items.length(); i++) e.answer(x, "set(0, " + i + ", " + items.charAt(i) + ")");
    }

    private static void dinnersTold() {
        e.says("Terms 3.4", "A row tells whether a PERSON EATS (1) or not (0: HUNGRY, or OUTSIDE) in each of n DAYS (1 to 12) from now on.");
        e.due(with(PAYS_9 + "z0,1,9;", "1000"), "who(0, 2, 0, 0, 1) 67", "who(0, 2, 0, 0, 2) 64", "who(0, 2, 0, 0, 4) 64", "who(0, 2, 0, 1, 1) 0",
            "days(1) 0", "who(0, 2, 0, 1, 3) 64");
        // outside: one who stays there eats nothing, nor does one who has gone out
        e.due(with(PAYS_9 + "z0,1,99;", "01", "stay(0, 1)"), "who(0, 2, 0, 0, 1) 67", "who(0, 2, 0, 1, 1) 0", "cross(0) 0", "who(0, 2, 0, 0, 1) 0",
            "who(0, 2, 0, 1, 1) 67");
        // the twelfth day counts, and one cannot tell of a thirteenth
        Edges.Used x = with(PAYS_1 + "z0,1,11;", "1111111111101");
        e.due(x, "who(0, 2, 0, 0, 12) 64", "who(0, 1, 0, 0, 12) 2048", "who(0, 1, 0, 0, 11) 2147481600", "who(0, 1, 0, 0, 1) 2147483646",
            "who(0, 1, 0, 0, 13) BAD", "who(0, 1, 0, 0, 0) BAD",
            "set(0, 11, 1) 1", "who(0, 2, 0, 0, 12) 3", "who(0, 1, 0, 0, 12) 2147479552");
        // an item that is neither tells of no dinner that could be
        for (int v : new int[] {2, -1, 3, 127, -128}) {
            e.due(with(PAYS_9 + "z0,1,9;", "10"), "set(0, 0, " + v + ") " + v, "who(0, 0, 0, 0, 1) 0", "who(0, 1, 0, 0, 1) 0",
                "who(0, 2, 0, 0, 1) 0", "what(1, 0, 0, 0, 0, 1) 0",
                "what(1, 1, 0, 0, 0, 1) 0", "set(0, 0, 257) 1", "who(0, 2, 0, 0, 1) 67");
        }
    }

    private static void whatCall() {
        e.says("Terms 3.4", "KINDS (bits 1 to 5), FACINGS (0, 1, bits) of a GATE by which it is so;");
        e.says("Promise 29", "KINDS (which = 0), FACINGS (1) of a GATE, by whether a PERSON EATS, n ITEMS of a ROW from i on.");
        for (char sort : "jwtom".toCharArray()) {
            // by gate 1 that faces out, of whatever sort it is, and by one that faces in
            String first = "s1,9;j1,1;" + sort;
            e.due(with(first + "1,1;z0,1,8;", "10"), "what(1, 0, 0, 0, 0, 1) 48", "what(1, 0, 0, 0, 1, 1) 14",
                "what(0, 0, 0, 0, 1, 1) " + ("om".indexOf(sort) < 0 ? 62 : 0),
                "what(0, 0, 0, 0, 0, 1) " + ("om".indexOf(sort) < 0 ? 0 : 62), "fall(1) 2", "what(1, 0, 0, 0, 0, 1) 62", "what(1, 0, 0, 0, 1, 1) 0",
                "what(1, 1, 0, 0, 0, 1) 3", "what(1, 1, 0, 0, 1, 1) 0");
            e.due(with(first + "1,0;z0,1,8;", "10"), "what(1, 0, 0, 0, 0, 1) 62", "what(1, 0, 0, 0, 1, 1) 0");
            boolean isOpen = "om".indexOf(sort) >= 0;
            e.due(with(first + "1,1;z0,1,8;",
                "10"), "what(1, 1, 0, 0, 0, 1) " + (isOpen ? 3 : 1), "what(1, 1, 0, 0, 1, 1) " + (isOpen ? 0 : 2), "round(1) 0",
                "what(1, 1, 0, 0, 0, 1) " + (isOpen ? 3 : 1), "what(1, 1, 0, 0, 1, 1) " + (isOpen ? 0 : 2));
        }
        // one is of gate 0, and back there hungry if gate 1 took that from one: a wide one and an open one do not
        Edges.Used x = with("s1,9;w1,0;j1,0;z0,1,0;", "110", "cross(0)", "round(0)");
        e.due(x, "what(1, 0, 0, 0, 0, 2) 20", "what(1, 0, 0, 0, 1, 2) 42", "what(1, 0, 0, 0, 0, 1) 62");
        // n items from i on, to the end of the longest row
        Edges.Used y = e.told(PAYS_1 + "z0,1,12;", "row(5, 1, 40)");
        for (int i = 28; i < 40; i++) e.answer(y, "set(5, " + i + ", 1)");
        e.due(y, "what(1, 1, 0, 5, 28, 12) 3", "what(1, 1, 0, 5, 27, 12) 0", "what(1, 1, 0, 5, 29, 12) PLACE", "what(1, 1, 0, 5, 29, 11) 3",
            "what(1, 1, 0, 5, 39, 1) 3", "what(1, 1, 0, 5, 40, 1) PLACE");
        e.says("Promise 29", "BAD: GATE, which, PERSON, ROW, n; NULL; PLACE.");
        e.refused("what(-1, 0, 0, 0, 0, 1) BAD", "what(5, 0, 0, 0, 0, 1) BAD", "what(MIN, 0, 0, 0, 0, 1) BAD", "what(MAX, 0, 0, 0, 0, 1) BAD",
            "what(0, -1, 0, 0, 0, 1) BAD", "what(0, 2, 0, 0, 0, 1) BAD",
            "what(0, MIN, 0, 0, 0, 1) BAD", "what(0, MAX, 0, 0, 0, 1) BAD", "what(0, 0, -1, 0, 0, 1) BAD", "what(0, 0, 4, 0, 0, 1) BAD",
            "what(0, 0, MIN, 0, 0, 1) BAD", "what(0, 0, MAX, 0, 0, 1) BAD",
            "what(0, 0, 0, -1, 0, 1) BAD", "what(0, 0, 0, 8, 0, 1) BAD", "what(0, 0, 0, MIN, 0, 1) BAD", "what(0, 0, 0, MAX, 0, 1) BAD",
            "what(0, 0, 0, 2, 0, 0) BAD", "what(0, 0, 0, 2, 0, 13) BAD",
            "what(0, 0, 0, 2, 0, MIN) BAD", "what(0, 0, 0, 2, 0, MAX) BAD", "what(0, 0, 0, 4, 0, 13) BAD", "what(0, 0, 0, 2, -1, 0) BAD",
            "what(0, 0, 0, 4, 0, 1) NULL", "what(0, 1, 0, 7, -1, 12) NULL",
            "what(0, 0, 0, 0, -1, 1) PLACE", "what(0, 0, 0, 0, 3, 1) PLACE", "what(0, 0, 0, 0, 2, 2) PLACE", "what(0, 0, 0, 0, 0, 4) PLACE",
            "what(0, 0, 0, 3, 0, 1) PLACE", "what(0, 0, 0, 2, 29, 12) PLACE",
            "what(0, 0, 0, 2, MIN, 12) PLACE", "what(0, 0, 0, 2, MAX, 12) PLACE", "what(0, 1, 0, 2, 40, 1) PLACE");
        e.refusedBare("what(0, 0, 0, 0, 0, 1) BAD", "what(0, 0, 0, 4, 0, 1) BAD");
    }

    private static void whoCall() {
        e.says("Terms 3.4", "HEADINGS (0, 1, bits), FISHES (0 to 30, bits) of the PERSON.");
        e.says("Promise 30", "HEADINGS (which = 0), FISHES (1), FELL (2), by whether a PERSON EATS, n ITEMS of a ROW from i on.");
        String between = "s1,9;o1,0;o1,0;j1,1;";
        e.due(with(between + "z1,1,0;", "10"), "who(0, 0, 0, 0, 1) 1", "who(0, 0, 0, 1, 1) 2");
        e.due(with(between + "z1,0,0;", "10"), "who(0, 0, 0, 0, 1) 1", "who(0, 0, 0, 1, 1) 2");
        // at an end both ways are one
        e.due(with(between + "z0,0,0;", "10"), "who(0, 0, 0, 0, 1) 3", "who(0, 0, 0, 1, 1) 0");
        e.due(with(between + "z2,0,0;", "10"), "who(0, 0, 0, 0, 1) 3", "who(0, 0, 0, 1, 1) 0");
        e.due(with(PAYS_30 + "z0,1,99;", "10"), "who(0, 1, 0, 0, 1) 1073741824", "who(0, 1, 0, 1, 1) 1073741823");
        e.due(with(PAYS_1 + "z0,1,99;", "10"), "who(0, 1, 0, 0, 1) 2147483646", "who(0, 1, 0, 1, 1) 1");
        e.due(with(PAYS_9 + "z0,1,0;", "110"), "who(0, 1, 0, 0, 3) 133955584", "who(0, 1, 0, 0, 2) 2147221504", "stay(0, 1) 1",
            "who(0, 1, 0, 2, 1) 2147483647", "who(0, 1, 0, 0, 1) 0");
        e.says("Terms 3.4", "FELL: GATES (bits) that are not FALLEN, one of which, FALLEN now, makes it so; 64 more, if it is so as it is.");
        Edges.Used all = with(SIX_POOR, "10", "stay(0, 1)");
        e.due(all, "who(0, 2, 0, 1, 1) 127", "who(0, 2, 0, 0, 1) 0", "fall(0) 1", "who(0, 2, 0, 1, 1) 126", "fall(5) 33", "who(0, 2, 0, 1, 1) 94",
            "fall(1) 35", "fall(2) 39", "fall(3) 47", "fall(4) 63",
            "who(0, 2, 0, 1, 1) 64", "who(0, 2, 0, 0, 1) 0");
        e.due(with(SIX_POOR, "1011"), "who(0, 2, 0, 0, 1) 2", "who(0, 2, 0, 1, 1) 125", "who(0, 2, 0, 0, 2) 2", "who(0, 2, 0, 2, 2) 0", "fall(2) 4",
            "who(0, 2, 0, 2, 2) 2", "who(0, 2, 0, 0, 2) 0", "fall(1) 6",
            "who(0, 2, 0, 2, 2) 121", "who(0, 2, 0, 1, 1) 0");
        e.says("Promise 30", "BAD: PERSON, which, ROW, n; NULL; PLACE.");
        e.refused("who(-1, 0, 0, 0, 1) BAD", "who(4, 0, 0, 0, 1) BAD", "who(MIN, 0, 0, 0, 1) BAD", "who(MAX, 0, 0, 0, 1) BAD",
            "who(0, -1, 0, 0, 1) BAD", "who(0, 3, 0, 0, 1) BAD", "who(0, MIN, 0, 0, 1) BAD",
            "who(0, MAX, 0, 0, 1) BAD", "who(0, 0, -1, 0, 1) BAD", "who(0, 0, 8, 0, 1) BAD", "who(0, 0, MIN, 0, 1) BAD", "who(0, 0, MAX, 0, 1) BAD",
            "who(0, 0, 2, 0, 0) BAD", "who(0, 0, 2, 0, 13) BAD",
            "who(0, 0, 2, 0, MIN) BAD", "who(0, 0, 2, 0, MAX) BAD", "who(0, 2, 4, 0, 13) BAD", "who(0, 2, 2, -1, 0) BAD", "who(0, 0, 4, 0, 1) NULL",
            "who(0, 2, 7, -1, 12) NULL", "who(0, 0, 0, -1, 1) PLACE",
            "who(0, 0, 0, 3, 1) PLACE", "who(0, 1, 0, 2, 2) PLACE", "who(0, 1, 0, 0, 4) PLACE", "who(0, 2, 3, 0, 1) PLACE",
            "who(0, 2, 2, 29, 12) PLACE", "who(0, 2, 2, MIN, 12) PLACE", "who(0, 2, 2, MAX, 12) PLACE");
        e.refusedBare("who(0, 0, 0, 0, 1) BAD", "who(0, 0, 4, 0, 1) BAD");
        e.due(e.lived(), "who(3, 0, 2, 28, 12) 0", "who(3, 0, 2, 27, 12) 3", "who(3, 0, 2, 39, 1) 0", "who(3, 0, 2, 0, 1) 3");
    }

    private static void dueFed(Edges.Used x, int n, int p, long above, long below) {
        e.due(x, "fed(0, " + n + ", " + p + ", 0) " + above, "fed(0, " + n + ", " + p + ", 1) " + below);
    }

    private static void fedCall() {
        e.says("Terms 3.5", "FED by p of 10 (0 to 10): each GATE that is not FALLEN falls now in p of 10 cases, apart: how likely a PERSON is not HUNGRY in n DAYS (0 to 30): a fraction.");
        e.says("Promise 31", "FED: above (what = 0), below (1).");
        Edges.Used x = e.told(PAYS_9 + "z0,1,0;");
        dueFed(x, 0, 0, 1, 1);
        dueFed(x, 0, 5, 1, 1);
        dueFed(x, 0, 10, 1, 1);
        dueFed(x, 1, 0, 0, 1);
        dueFed(x, 1, 1, 1, 10);
        dueFed(x, 1, 4, 2, 5);
        dueFed(x, 1, 9, 9, 10);
        dueFed(x, 1, 10, 1, 1);
        dueFed(x, 2, 0, 0, 1);
        dueFed(x, 2, 1, 1, 100);
        dueFed(x, 2, 5, 1, 4);
        dueFed(x, 2, 7, 49, 100);
        dueFed(x, 30, 2, 1, 25);
        // what has fallen falls no more; what has stood up again may; hunger that was does not count
        e.due(x, "days(1) 1", "undo() 0", "fall(1) 2");
        dueFed(x, 1, 0, 1, 1);
        dueFed(x, 2, 7, 7, 10);
        e.due(x, "fall(0) 3");
        dueFed(x, 30, 0, 1, 1);
        dueFed(x, 30, 10, 1, 1);
        e.due(x, "setUp(0) 2", "setUp(1) 0", "days(1) 1");
        dueFed(x, 1, 3, 3, 10);
        dueFed(x, 0, 3, 1, 1);
        // six gates, each of which one comes to: the most cases there are
        Edges.Used six = e.told(SIX_POOR);
        dueFed(six, 30, 1, 1, 1000000);
        dueFed(six, 30, 9, 531441, 1000000);
        dueFed(six, 30, 5, 1, 64);
        dueFed(six, 30, 0, 0, 1);
        dueFed(six, 30, 10, 1, 1);
        // the thirtieth day counts
        Edges.Used late = e.told(PAYS_1 + "z0,1,29;");
        dueFed(late, 29, 0, 1, 1);
        dueFed(late, 30, 0, 0, 1);
        dueFed(e.told(PAYS_1 + "z0,1,30;"), 30, 0, 1, 1);
        dueFed(e.told(PAYS_9 + "z0,1,0;", "stay(0, 1)"), 30, 0, 1, 1);
        e.says("Promise 31", "BAD.");
        e.refused("fed(-1, 0, 0, 0) BAD", "fed(4, 0, 0, 0) BAD", "fed(MIN, 0, 0, 0) BAD", "fed(MAX, 0, 0, 0) BAD", "fed(0, -1, 0, 0) BAD",
            "fed(0, 31, 0, 0) BAD", "fed(0, MIN, 0, 0) BAD", "fed(0, MAX, 0, 0) BAD",
            "fed(0, 0, -1, 0) BAD", "fed(0, 0, 11, 0) BAD", "fed(0, 0, MIN, 0) BAD", "fed(0, 0, MAX, 0) BAD", "fed(0, 0, 0, -1) BAD",
            "fed(0, 0, 0, 2) BAD", "fed(0, 30, 10, MIN) BAD", "fed(0, 30, 10, MAX) BAD");
        e.refusedBare("fed(0, 0, 0, 0) BAD", "fed(0, 0, 0, 1) BAD");
    }

    /** The same years lived by acts, with the draws made here. */
    private static void dueDrawn(String text, int gates, int n, int seed) {
        Edges.Used lived = e.told(text, "days(2)"), drawn = e.told(text, "days(2)");
        long before = e.answer(lived, "count(5)");
        long x = seed;
        for (int i = 0; i < n; i++) {
            x = x * 16807 % 2147483647;
            long gate = x % gates;
            if (x % 3 == 0) e.answer(lived, "round(" + gate + ")");
            else if (x % 5 == 0) e.answer(lived, (e.answer(lived, "gate(" + gate + ", 2)") == 1 ? "setUp(" : "fall(") + gate + ")");
            e.answer(lived, "days(1)");
        }
        long fish = 0;
        for (int p = 0; p < e.answer(drawn, "count(2)"); p++) fish += e.answer(lived, "person(" + p + ", 4)");
        e.due(drawn, "drawn(" + n + ", " + seed + ", 0) " + (e.answer(lived, "count(5)") - before), "drawn(" + n + ", " + seed + ", 1) " + fish);
    }

    private static void drawnCall() {
        e.says("Terms 3.5", "YEARS of n DAYS (0 to 60) by a SEED (X at first): ahead of each X becomes the rest of (X times 16807) by 2147483647;"
            + " the GATE that is the rest of X by how many there are is turned round, if X by 3 leaves 0; if not so, and X by 5 leaves 0, it falls, or is set up, if it is FALLEN;"
            + " then the DAY: how often all were HUNGRY in them; FISH of all together then.");
        e.says("Promise 32", "YEARS by a SEED (1 to 999999): how often (what = 0), FISH (1).");
        // day 1 is at gate 1, an odd X there: 16807 does nothing, 50421 turns it, 84035 makes it fall, 252105 (by 3 and by 5) turns it
        Edges.Used x = e.told(PAYS_9 + "z0,1,5;z0,1,99;");
        e.due(x, "drawn(0, 1, 0) 0", "drawn(0, 1, 1) 104", "drawn(1, 1, 0) 1", "drawn(1, 1, 1) 95", "drawn(1, 3, 0) 0", "drawn(1, 3, 1) 105",
            "drawn(1, 5, 0) 0", "drawn(1, 5, 1) 105",
            "drawn(1, 15, 0) 0", "fall(1) 2", "drawn(1, 15, 0) 0", "drawn(1, 5, 0) 1", "drawn(1, 5, 1) 95", "drawn(1, 3, 0) 0", "setUp(1) 0",
            "round(1) 0", "drawn(1, 3, 0) 1", "drawn(1, 15, 0) 1", "drawn(1, 5, 0) 0");
        // 999997 by 16807 is more than an int holds: the rest 1774564050 turns gate 0; 999999 does nothing
        Edges.Used y = e.told(PAYS_9 + "z1,0,5;");
        e.due(y, "drawn(1, 999997, 0) 0", "drawn(1, 999997, 1) 6", "drawn(1, 999999, 0) 1", "drawn(1, 999999, 1) 5", "drawn(0, 999999, 0) 0",
            "drawn(0, 999999, 1) 5");
        // all together: five, and then but one, where those of the shore before have gone
        Edges.Used five = e.told(PAYS_9 + "z0,1,1;z0,1,2;z0,1,4;z0,1,8;z0,1,99;");
        e.due(five, "drawn(0, 1, 1) 114", "drawn(1, 1, 0) 4", "drawn(1, 1, 1) 105");
        e.tell(five, PAYS_9 + "z0,1,1;");
        e.due(five, "drawn(0, 1, 1) 1", "drawn(1, 1, 0) 1", "drawn(1, 1, 1) 1", "days(1) 1", "count(5) 1");
        // hunger that was does not count, fish that is does
        e.due(y, "days(3) 3", "drawn(0, 1, 0) 0", "drawn(0, 1, 1) 5", "drawn(1, 1, 0) 1");
        for (int n : new int[] {0, 1, 2, 59, 60}) {
            for (int seed : new int[] {1, 2, 3, 5, 7, 15, 999997, 999999}) {
                dueDrawn(PAYS_9 + "z0,1,5;z1,0,40;", 2, n, seed);
                dueDrawn("s1,9;j1,1;w1,1;t1,1;m1,1;j1,1;w1,0;z0,1,5;z3,0,0;z5,0,40;", 6, n, seed);
                dueDrawn("s2,5;t1,1;j1,1;w1,1;t1,1;j1,0;z0,1,5;z3,0,0;", 5, n, seed);
            }
        }
        e.says("Promise 32", "BAD; STATE: no SHORE (ahead of BAD).");
        e.refused("drawn(-1, 1, 0) BAD", "drawn(61, 1, 0) BAD", "drawn(MIN, 1, 0) BAD", "drawn(MAX, 1, 0) BAD", "drawn(0, 0, 0) BAD",
            "drawn(0, -1, 0) BAD", "drawn(0, 1000000, 0) BAD", "drawn(0, MIN, 0) BAD",
            "drawn(0, MAX, 0) BAD", "drawn(0, 1, -1) BAD", "drawn(0, 1, 2) BAD", "drawn(60, 1, MIN) BAD", "drawn(60, 1, MAX) BAD");
        e.refusedBare("drawn(0, 1, 0) STATE", "drawn(60, 999999, 1) STATE", "drawn(-1, 1, 0) STATE", "drawn(61, 1, 0) STATE", "drawn(0, 0, 0) STATE",
            "drawn(0, 1000000, 0) STATE", "drawn(0, 1, 2) STATE");
    }

    private static void imageCall() {
        e.says("Promise 33", "An IMAGE (0, 1) is kept of the SHORE: 1.");
        // each by itself, the newer in place of the older; to keep one is no act
        Edges.Used x = e.told(PAYS_1 + "z0,1,9;");
        e.due(x, "image(0) 1", "restore(1) STATE", "days(1) 0", "image(1) 1", "count(6) 1", "days(1) 0", "restore(0) 1", "count(3) 0",
            "restore(1) 1", "count(3) 1", "person(0, 4) 8",
            "days(4) 0", "image(1) 1", "turn(0) 0", "restore(0) 1", "person(0, 4) 9", "restore(1) 1", "count(3) 5", "person(0, 4) 4", "image(0) 1",
            "restore(0) 1", "count(3) 5");
        e.says("Promise 33", "BAD; STATE: no SHORE.");
        e.refused("image(-1) BAD", "image(2) BAD", "image(MIN) BAD", "image(MAX) BAD", "image(32) BAD");
        e.refusedBare("image(0) STATE", "image(1) STATE", "image(-1) BAD", "image(2) BAD", "image(MIN) BAD", "image(MAX) BAD");
        // a text with a fault makes no shore of which an image could be kept
        e.due(e.told("s1,1;j1,1;j1,1;"), "image(0) STATE", "restore(0) STATE");
    }

    private static void restoreCall() {
        e.says("Promise 34", "The SHORE is as an IMAGE kept it (no ACT can be undone then): 1.");
        String[] between = {"setUp(1)", "cross(1)", "turn(0)", "stay(3, 0)", "round(4)", "fall(3)", "days(3)", "days(24)"};
        Edges.Used made = e.lived(), other = e.lived();
        e.due(made, "image(0) 1");
        e.due(other, "image(0) 1", "restore(0) 1");
        for (int twice = 0; twice < 2; twice++) {
            for (String act : between) e.answer(made, act);
            e.due(made, "restore(0) 1", "count(6) 0", "undo() STATE", "count(3) 2", "status() 3");
        }
        e.same("acts and restore(0)", made, other);
        // in place of another shore, with its gates, people and law; rows, tape, trace and fault stay as they are
        Edges.Used x = e.lived();
        e.due(x, "shore() -1000102", "image(0) 1");
        e.tell(x, "s9,9;o9,1;o9,1;z1,1,50;");
        e.due(x, "ask(0, 0) -91", "turn(0) 0", "feed(115) 1", "restore(0) 1", "count(0) 4", "count(1) 5", "count(2) 4", "count(3) 2", "count(4) 2",
            "count(5) 1", "count(6) 0", "count(7) 1", "fault() 1",
            "trace(0) 13", "trace(2) NONE", "gate(0, 0) 2", "kind(4) 5", "person(2, 6) 1", "days(1) 2", "person(2, 4) 29", "undo() 0",
            "undo() STATE", "restore(1) 1", "count(3) 1", "count(4) 0", "person(3, 6) 1", "person(2, 6) 0");
        e.says("Promise 34", "BAD; STATE: none was kept.");
        e.refused("restore(-1) BAD", "restore(2) BAD", "restore(MIN) BAD", "restore(MAX) BAD", "restore(33) BAD", "restore(0) STATE");
        e.refusedBare("restore(0) STATE", "restore(1) STATE", "restore(2) BAD", "restore(-1) BAD", "restore(MIN) BAD", "restore(MAX) BAD");
    }
}
