/** Edges of promises 35 to 39: kinds of gates, asks by bodies, the trace, counts. */
public final class EdgesOfAsksTest {
    private static final Edges e = new Edges();
    private static final String ALL = "s1,1;j2,0;w3,0;t4,0;o5,0;m6,0;j7,0;z0,1,9;z1,1,9;z2,1,9;z3,1,9;z5,1,9;";

    public static void main(String[] args) {
        kindAndAs();
        askCall();
        traceCall();
        countCall();
        for (int k = 35; k <= 39; k++) e.covers("Promise " + k);
        e.covers("Terms 3.6", "Terms 4.0", "Terms 4.1");
        e.end();
    }

    private static void kindAndAs() {
        e.says("Promise 35", "The KIND of a GATE, as told (1 to 5).");
        e.due(e.told(ALL), "kind(0) 1", "kind(1) 2", "kind(2) 3", "kind(3) 4", "kind(4) 5", "kind(5) 1", "fall(0) 1", "kind(0) 1", "round(4) 1",
            "kind(4) 5");
        e.says("Promise 35", "BAD.");
        e.refused("kind(-1) BAD", "kind(5) BAD", "kind(6) BAD", "kind(MIN) BAD", "kind(MAX) BAD");
        e.says("Terms 3.6", "KINDS of GATES: 0 GATE; 1 JAW, a GATE; 2 WIDE, a JAW; 3 TELLER, a JAW; 4 OPEN, a GATE; 5 SMOKE, an OPEN.");
        e.says("Promise 36", "A GATE is taken as one of a KIND (0 .. 5): its number.");
        String[] is = {"110000", "111000", "110100", "100010", "100011", "110000"};
        Edges.Used x = e.told(ALL);
        for (int g = 0; g < 6; g++) {
            for (int k = 0; k < 6; k++) {
                boolean isThat = is[g].charAt(k) == '1';
                e.due(x, "as(" + g + ", " + k + ") " + (isThat ? String.valueOf(g) : "KIND"), "status() " + (isThat ? 0 : 3));
            }
        }
        e.says("Promise 36", "BAD; KIND: it is no such one.");
        e.refused("as(-1, 0) BAD", "as(5, 0) BAD", "as(MIN, 0) BAD", "as(MAX, 0) BAD", "as(0, -1) BAD", "as(0, 6) BAD", "as(0, MIN) BAD",
            "as(0, MAX) BAD", "as(0, 32) BAD", "as(0, 33) BAD",
            "as(0, 2) KIND", "as(0, 3) KIND", "as(0, 4) KIND", "as(0, 5) KIND", "as(1, 3) KIND", "as(2, 2) KIND", "as(3, 1) KIND", "as(3, 5) KIND",
            "as(4, 1) KIND", "as(4, 3) KIND");
        e.refusedBare("as(0, 0) BAD", "kind(0) BAD");
    }

    /** What a gate answers, and the bodies that began, by their numbers. */
    private static void dueAsk(Edges.Used x, int gate, int what, int answer, int... bodies) {
        e.due(x, "ask(" + gate + ", " + what + ") " + answer);
        dueTrace(x, bodies);
    }

    private static void dueTrace(Edges.Used x, int... bodies) {
        for (int i = 0; i < bodies.length; i++) e.due(x, "trace(" + i + ") " + bodies[i]);
        for (int i = bodies.length; i <= 6; i++) e.due(x, "trace(" + i + ") NONE");
    }

    /** Nobody is of any gate; the same with all gates turned round and fallen, by which an ask does not change. */
    private static Edges.Used[] ofNobody() {
        Edges.Used changed = e.told(ALL);
        for (int g = 0; g < 6; g++) {
            e.answer(changed, "round(" + g + ")");
            e.answer(changed, "fall(" + g + ")");
        }
        return new Edges.Used[] {e.told(ALL), changed};
    }

    private static void askCall() {
        e.says("Terms 3.6", "By this it is asked.");
        e.says("Promise 37", "An ASK (0, 1) of a GATE.");
        sizes();
        marks();
        e.says("Terms 4.0", "ASKS of GATES, by BODIES, each of which leaves its number in THE TRACE as it begins (the first 16):");
        Edges.Used longest = e.told(ALL, "ask(1, 0)");
        e.due(longest, "trace(0) 12", "trace(5) 20", "trace(6) NONE", "trace(15) NONE", "trace(16) NONE");
        e.says("Terms 4.1", "(Of an ask the BODY told for the KIND begins, else that of the nearest KIND that it is, too, else the one that is lent;");
        Edges.Used x = e.told(ALL);
        e.due(x, "ask(0, 0) 2", "trace(0) 11", "ask(1, 0) -5", "trace(0) 12", "ask(2, 0) -994", "trace(0) 11", "ask(3, 0) -95", "trace(0) 13",
            "ask(4, 0) -188", "trace(0) 14", "ask(0, 1) 0", "trace(0) 21", "ask(1, 1) 2", "trace(0) 24", "ask(2, 1) -998", "trace(0) 22",
            "ask(3, 1) 98", "trace(0) 23", "ask(4, 1) 192", "trace(0) 23");
        e.says("Terms 4.1", "SIZE, MARK within others are asked of the same GATE anew.)");
        dueAsk(x, 1, 0, -5, 12, 11, 10, 24, 21, 20);
        dueAsk(x, 2, 0, -994, 11, 10, 22, 21, 20);
        dueAsk(x, 4, 1, 192, 23, 20, 14, 13, 10);
        refusedAsks();
    }

    private static void sizes() {
        e.says("Terms 4.0", "0 SIZE: 10 lent to all GATES: LENGTH.");
        e.due(e.told("s1,1;o1,0;o9,0;z0,1,0;"), "ask(0, 0) -99", "trace(1) 10", "ask(1, 0) -91", "trace(1) 10");
        Edges.Used one = e.told(ALL, "cross(0)", "cross(1)", "cross(2)", "cross(3)", "cross(4)");
        for (Edges.Used x : ofNobody()) {
            e.says("Terms 4.0", "11 of JAWS: what 10 gives, and MARK.");
            dueAsk(x, 0, 0, 2, 11, 10, 21, 20);
            dueAsk(x, 5, 0, 12, 11, 10, 21, 20);
            dueAsk(x, 2, 0, -994, 11, 10, 22, 21, 20);
            dueAsk(one, 0, 0, 3, 11, 10, 21, 20);
            dueAsk(one, 5, 0, 13, 11, 10, 21, 20);
            dueAsk(one, 2, 0, -993, 11, 10, 22, 21, 20);
            e.says("Terms 4.0", "12 of WIDE ones: 0 less what 11 gives.");
            dueAsk(x, 1, 0, -5, 12, 11, 10, 24, 21, 20);
            dueAsk(one, 1, 0, -7, 12, 11, 10, 24, 21, 20);
            e.says("Terms 4.0", "13 of OPEN ones: what 10 gives, less 100.");
            dueAsk(x, 3, 0, -95, 13, 10);
            dueAsk(one, 3, 0, -95, 13, 10);
            e.says("Terms 4.0", "14 of SMOKE holes: what 13 gives, twice.");
            dueAsk(x, 4, 0, -188, 14, 13, 10);
            dueAsk(one, 4, 0, -188, 14, 13, 10);
        }
    }

    private static void marks() {
        e.says("Terms 4.0", "1 MARK: 20 lent to all GATES: the number.");
        e.due(e.told("s1,1;j1,0;j9,0;z0,1,0;"), "ask(0, 1) 0", "trace(1) 20", "ask(1, 1) 1", "trace(1) 20");
        Edges.Used one = e.told(ALL, "cross(0)", "cross(1)", "cross(2)", "cross(3)", "cross(4)");
        for (Edges.Used x : ofNobody()) {
            e.says("Terms 4.0", "21 of JAWS: what 20 gives, and how many are OF it.");
            dueAsk(x, 0, 1, 0, 21, 20);
            dueAsk(x, 5, 1, 5, 21, 20);
            dueAsk(one, 0, 1, 1, 21, 20);
            dueAsk(one, 5, 1, 6, 21, 20);
            e.says("Terms 4.0", "22 of TELLERS: what 21 gives, less 1000.");
            dueAsk(x, 2, 1, -998, 22, 21, 20);
            dueAsk(one, 2, 1, -997, 22, 21, 20);
            e.says("Terms 4.0", "23 of OPEN ones: what 20 gives, less SIZE.");
            dueAsk(x, 3, 1, 98, 23, 20, 13, 10);
            dueAsk(x, 4, 1, 192, 23, 20, 14, 13, 10);
            dueAsk(one, 4, 1, 192, 23, 20, 14, 13, 10);
            e.says("Terms 4.0", "24 of WIDE ones: what 21 gives, twice.");
            dueAsk(x, 1, 1, 2, 24, 21, 20);
            dueAsk(one, 1, 1, 4, 24, 21, 20);
        }
    }

    private static void refusedAsks() {
        // all five are of it
        Edges.Used five = e.told("s1,1;j1,0;w9,0;z0,1,0;z0,1,0;z0,1,0;z0,1,0;z0,1,0;", "days(1)");
        e.due(five, "homes(1) 31", "ask(1, 1) 12", "ask(1, 0) -21", "ask(0, 1) 0", "ask(0, 0) 1");
        e.says("Promise 37", "BAD.");
        e.refused("ask(-1, 0) BAD", "ask(5, 0) BAD", "ask(MIN, 0) BAD", "ask(MAX, 0) BAD", "ask(0, -1) BAD", "ask(0, 2) BAD", "ask(0, MIN) BAD",
            "ask(0, MAX) BAD");
        e.refusedBare("ask(0, 0) BAD", "ask(0, 1) BAD");
        e.says("Promise 37", "THE TRACE is empty ahead of it.");
        Edges.Used x = e.told(ALL);
        e.due(x, "ask(1, 0) -5");
        dueTrace(x, 12, 11, 10, 24, 21, 20);
        e.due(x, "ask(0, 1) 0");
        dueTrace(x, 21, 20);
        e.due(x, "ask(3, 0) -95", "ask(3, 0) -95");
        dueTrace(x, 13, 10);
        // what is refused leaves it
        e.due(x, "ask(6, 0) BAD", "ask(0, 2) BAD");
        dueTrace(x, 13, 10);
    }

    private static void traceCall() {
        e.says("Promise 38", "Number i of THE TRACE; NONE.");
        e.due(e.fresh(), "trace(0) NONE", "trace(-1) NONE", "trace(15) NONE", "trace(16) NONE", "trace(MIN) NONE", "trace(MAX) NONE");
        // the longest there is has six
        e.due(e.lived(), "trace(-1) NONE", "trace(0) 12", "trace(1) 11", "trace(2) 10", "trace(3) 24", "trace(4) 21", "trace(5) 20", "trace(6) NONE",
            "trace(7) NONE", "trace(15) NONE", "trace(16) NONE", "trace(17) NONE",
            "trace(MIN) NONE", "trace(MAX) NONE", "status() 3");
        e.due(e.lived(), "kind(0) 1", "as(0, 0) 0", "gate(0, 0) 2", "days(1) 2", "undo() 8", "trace(0) 12", "trace(5) 20");
    }

    private static void countCall() {
        e.says("Promise 39",
            "How many: 0 ROWS, 1 GATES, 2 PEOPLE, 3 DAY, 4 FALLEN ones (bits), 5 how often all were HUNGRY, 6 ACTS that can be undone, 7 bytes on the tape.");
        e.due(e.lived(), "count(0) 4", "count(1) 5", "count(2) 4", "count(3) 2", "count(4) 2", "count(5) 1", "count(6) 8", "count(7) 2");
        Edges.Used x = e.told(ALL);
        e.due(x, "count(0) 0", "count(1) 6", "count(2) 5", "count(3) 0", "count(4) 0", "count(5) 0", "count(6) 0", "count(7) 0");
        for (int r = 0; r < 8; r++) e.answer(x, "row(" + r + ", 0, 0)");
        for (int g = 0; g < 6; g++) e.answer(x, "fall(" + g + ")");
        for (int i = 0; i < 100; i++) e.answer(x, "feed(255)");
        e.due(x, "days(24) 0", "count(0) 8", "count(4) 63", "count(3) 24", "count(6) 24", "count(7) 100", "drop(0) 0", "count(0) 7");
        Edges.Used hungry = e.told("s1,9;j1,1;j1,1;z0,1,0;z1,1,0;z0,1,9;", "days(2)");
        e.due(hungry, "count(5) 5", "person(0, 5) 2", "person(1, 5) 2", "person(2, 5) 1");
        e.says("Promise 39", "BAD.");
        e.refused("count(-1) BAD", "count(8) BAD", "count(MIN) BAD", "count(MAX) BAD");
        e.refusedBare("count(-1) BAD", "count(8) BAD");
    }
}
