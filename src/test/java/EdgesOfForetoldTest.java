/** Edges of promises 19 to 28: what is ahead, hours and ways, the fewest turned and fallen, fellows, homes and shares. */
public final class EdgesOfForetoldTest {
    private static final Edges e = new Edges();
    // jaws that face out: one is never of the gate one comes to, and pays 1 each day
    private static final String PAYS = "s1,1;j1,1;j1,1;";

    public static void main(String[] args) {
        nothingChanges();
        aheadCall();
        whenCall();
        firstCall();
        hours();
        leastCall();
        waysCall();
        roundsCall();
        fallsCall();
        fellowsAndHomes();
        shareCall();
        for (int k = 19; k <= 28; k++) e.covers("Promise " + k);
        e.covers("Terms 3.0", "Terms 3.1", "Terms 3.2", "Terms 3.3");
        e.end();
    }

    private static void nothingChanges() {
        e.says("Terms 3.0", "FORETOLD (nothing changes).");
        e.foretold("ahead(0, 60, 4)", "ahead(1, 1, 2)", "when(0, 0)", "when(1, 3)", "first(0)", "first(1)", "least(0, 31, 0)", "least(1, 1, 1)",
            "ways(0, 4, 8)",
            "rounds(0, 0, 30, 0)", "rounds(1, 2, 3, 1)", "falls(30, 0)", "falls(30, 1)", "fellows(0)", "homes(1)", "share(0, 999)",
            "what(2, 0, 1, 0, 0, 3)", "what(2, 1, 1, 2, 28, 12)", "who(1, 0, 0, 0, 3)", "who(1, 1, 2, 28, 12)", "who(1, 2, 1, 0, 2)",
            "fed(1, 30, 5, 0)", "fed(1, 30, 5, 1)", "drawn(60, 999999, 0)", "drawn(60, 1, 1)");
    }

    private static void aheadCall() {
        e.says("Terms 3.0", "AHEAD by n DAYS (0 to 60) of a PERSON: the GATE; whether INSIDE; OF; FISH; how often HUNGRY.");
        e.says("Promise 19", "AHEAD: the GATE (what = 0), whether INSIDE (1), OF (2), FISH (3), how often HUNGRY (4).");
        int[] days = {0, 1, 2, 24, 59, 60};
        int[] which = {0, 1, 2, 4, 5};
        for (int n : days) {
            Edges.Used then = e.lived(), now = e.lived();
            for (int left = n; left > 0; left -= 24) e.answer(then, "days(" + Math.min(24, left) + ")");
            for (int p = 0; p < 4; p++) {
                for (int what = 0; what < 5; what++) e.due(now, "ahead(" + p + ", " + n + ", " + what + ") " + e.answer(then, "person(" + p + ", " + which[what] + ")"));
            }
        }
        // a fish each day, then hungry: 59 fish are gone behind 59 days
        Edges.Used x = e.told(PAYS + "z0,1,59;");
        e.due(x, "ahead(0, 0, 3) 59", "ahead(0, 1, 3) 58", "ahead(0, 59, 3) 0", "ahead(0, 59, 4) 0", "ahead(0, 60, 3) 0", "ahead(0, 60, 4) 1",
            "ahead(0, 0, 0) 0", "ahead(0, 59, 0) 1", "ahead(0, 60, 0) 0", "ahead(0, 0, 1) 0", "ahead(0, 1, 1) 1", "ahead(0, 59, 2) 1",
            "ahead(0, 60, 2) 2");
        e.due(x, "days(24) 0", "days(24) 0", "days(13) 2", "ahead(0, 0, 4) 2", "ahead(0, 60, 4) 62");
        e.says("Promise 19", "BAD.");
        e.refused("ahead(-1, 0, 0) BAD", "ahead(4, 0, 0) BAD", "ahead(MIN, 0, 0) BAD", "ahead(MAX, 0, 0) BAD", "ahead(0, -1, 0) BAD",
            "ahead(0, 61, 0) BAD",
            "ahead(0, MIN, 0) BAD", "ahead(0, MAX, 0) BAD", "ahead(0, 0, -1) BAD", "ahead(0, 0, 5) BAD", "ahead(0, 60, MIN) BAD",
            "ahead(0, 60, MAX) BAD");
    }

    private static void whenCall() {
        e.says("Terms 3.0", "WHEN a PERSON is OF a GATE: behind how many DAYS (0 to 60) first; NONE.");
        e.says("Promise 20", "WHEN; NONE.");
        // of gate 5 only as one leaves it: down to 0 and up again takes ten days, the longest way there is
        Edges.Used far = e.told("s1,9;o1,0;o1,0;o1,0;o1,0;o1,0;j1,1;z5,1,0;z0,1,0;");
        e.due(far, "when(0, 5) 11", "when(0, 4) NONE", "when(0, 0) NONE", "when(1, 5) 6", "cross(0) 0", "when(0, 5) 1", "cross(0) 32",
            "when(0, 5) 0");
        e.due(e.told("s1,9;j1,0;t1,0;o1,0;z0,1,0;"), "when(0, 0) 4", "when(0, 1) 1", "when(0, 2) NONE", "cross(0) 1", "when(0, 0) 0", "when(0, 1) 1",
            "fall(1) 2", "when(0, 1) NONE",
            "stay(0, 1) 1", "when(0, 0) 0", "setUp(1) 0", "when(0, 1) NONE");
        e.says("Promise 20", "BAD: PERSON, GATE.");
        e.refused("when(-1, 0) BAD", "when(4, 0) BAD", "when(MIN, 0) BAD", "when(MAX, 0) BAD", "when(0, -1) BAD", "when(0, 5) BAD",
            "when(0, MIN) BAD", "when(0, MAX) BAD");
    }

    private static void firstCall() {
        e.says("Terms 3.0", "FIRST: the PERSON who is HUNGRY first, of several the least; behind how many DAYS (1 to 60); NONE.");
        e.says("Promise 21", "FIRST: which (what = 0), behind how many (1); NONE.");
        e.due(e.told(PAYS + "z0,1,0;"), "first(0) 0", "first(1) 1");
        e.due(e.told(PAYS + "z0,1,59;"), "first(0) 0", "first(1) 60");
        e.due(e.told(PAYS + "z0,1,60;"), "first(0) NONE", "first(1) NONE", "days(1) 0", "first(0) 0", "first(1) 60");
        e.due(e.told(PAYS + "z0,1,9;z1,1,3;z0,0,3;z1,0,4;"), "first(0) 1", "first(1) 4", "days(3) 0", "first(0) 1", "first(1) 1", "days(1) 2",
            "first(0) 1", "first(1) 1",
            "stay(1, 1) 2", "cross(1) 2", "first(0) 2", "first(1) 1");
        e.due(e.told(PAYS + "z0,1,9;z1,1,9;z0,0,9;z1,0,9;z0,1,2;"), "first(0) 4", "first(1) 3");
        e.says("Promise 21", "BAD; STATE: no SHORE (ahead of BAD).");
        e.refused("first(-1) BAD", "first(2) BAD", "first(MIN) BAD", "first(MAX) BAD");
        e.refusedBare("first(0) STATE", "first(1) STATE", "first(2) STATE", "first(-1) STATE", "first(MIN) STATE");
    }

    private static void hours() {
        e.says("Terms 3.1", "HOURS: a MOVE is going IN, or OUT (1 HOUR), or, OUTSIDE, to the next GATE up or down (LENGTH of the lesser one of the two).");
        Edges.Used x = e.told("s1,1;j2,0;j7,0;j9,0;z1,0,0;z0,0,0;z2,0,0;");
        e.due(x, "least(0, 2, 0) 1", "least(0, 1, 0) 3", "least(0, 4, 0) 8", "least(1, 2, 0) 3", "least(1, 4, 0) 10", "least(2, 2, 0) 8",
            "least(2, 1, 0) 10");
        // inside one can but go out
        e.due(x, "cross(0) 2", "least(0, 1, 0) 4", "least(0, 4, 0) 9", "least(0, 1, 1) 0", "ways(0, 2, 1) 1", "ways(0, 2, 2) 3");
        e.due(e.told("s1,1;j2,1;j7,0;z0,0,0;"), "least(0, 1, 0) 2", "least(0, 1, 1) 0");
        // no gate below the first, none above the last
        e.due(e.told("s1,1;o9,0;o9,0;z0,0,0;z1,1,0;"), "ways(0, 0, 1) 2", "ways(1, 0, 1) 2");
        e.due(e.told("s1,1;o9,0;o9,0;o9,0;z1,0,0;"), "ways(0, 0, 1) 3");
    }

    private static void leastCall() {
        e.says("Terms 3.1", "LEAST for a PERSON, a set of GATES: the fewest HOURS of MOVES behind which one is OF just these: how many;"
            + " of the first MOVE (0 IN or OUT, 1 up, 2 down) of such rows the least (NONE: no MOVE is needed); NONE: by none.");
        e.says("Promise 22", "LEAST: how many HOURS (what = 0), the first MOVE (1; NONE); NONE.");
        Edges.Used x = e.told("s1,1;w1,0;o1,0;w1,0;z1,0,0;");
        e.due(x, "least(0, 0, 0) 0", "least(0, 0, 1) NONE", "least(0, 1, 0) 2", "least(0, 1, 1) 2", "least(0, 4, 0) 2", "least(0, 4, 1) 1",
            "least(0, 5, 0) 6", "least(0, 5, 1) 1", "least(0, 2, 0) NONE", "least(0, 2, 1) NONE", "least(0, 7, 0) NONE", "least(0, 7, 1) NONE");
        // all of six wide ones, from an end, from within: down to the near end first, but in here ahead of it costs the same
        String wide = "s1,1;w9,0;w9,0;w9,0;w9,0;w9,0;w9,0;z0,1,0;z2,1,0;z5,1,0;";
        e.due(e.told(wide), "least(0, 63, 0) 56", "least(0, 63, 1) 0", "least(1, 63, 0) 74", "least(1, 63, 1) 0", "least(2, 63, 0) 56",
            "least(2, 32, 0) 1", "least(0, 32, 0) 46", "least(0, 32, 1) 1",
            "least(2, 1, 0) 46", "least(2, 1, 1) 2");
        // nowhere by the smoke hole (in, out) or by the teller above that faces out (up, in): both in two hours
        Edges.Used tie = e.told("s1,1;m1,0;t1,1;z1,0,50;", "cross(0)", "cross(0)", "days(1)", "fall(0)", "cross(0)", "setUp(0)");
        e.due(tie, "person(0, 0) 0", "person(0, 1) 0", "person(0, 2) 2", "least(0, 0, 0) 2", "least(0, 0, 1) 0", "least(0, 2, 0) 0",
            "least(0, 2, 1) NONE");
        Edges.Used below = e.told("s1,1;t1,1;m1,0;z0,1,50;", "cross(0)", "cross(0)", "days(1)", "fall(1)", "cross(0)", "setUp(1)");
        e.due(below, "person(0, 0) 1", "person(0, 1) 0", "person(0, 2) 1", "least(0, 0, 0) 2", "least(0, 0, 1) 0", "fall(1) 2", "least(0, 0, 0) 2",
            "least(0, 0, 1) 2");
        // both ways round to the same end in as many hours, the lesser first move being found last
        Edges.Used both = e.told("s1,1;w2,1;t3,1;w1,1;z2,1,0;", "days(1)", "cross(0)");
        e.due(both, "person(0, 0) 1", "person(0, 1) 0", "person(0, 2) 2", "least(0, 5, 0) 15", "least(0, 5, 1) 1");
        e.due(e.told("s1,1;j1,0;j1,0;z0,1,0;"), "least(0, 3, 0) NONE", "fall(0) 1", "least(0, 1, 0) NONE", "least(0, 1, 1) NONE", "least(0, 2, 0) 2",
            "stay(0, 1) 1", "least(0, 2, 0) 2");
        e.says("Promise 22", "BAD: a set of GATES that there are not, too.");
        e.refused("least(0, 32, 0) BAD", "least(0, 63, 0) BAD", "least(0, 33, 1) BAD", "least(0, -1, 0) BAD", "least(0, MIN, 0) BAD",
            "least(0, MAX, 0) BAD", "least(-1, 0, 0) BAD", "least(4, 0, 0) BAD",
            "least(MIN, 0, 0) BAD", "least(MAX, 0, 0) BAD", "least(0, 0, -1) BAD", "least(0, 0, 2) BAD", "least(0, 0, MIN) BAD",
            "least(0, 0, MAX) BAD");
        e.due(e.lived(), "least(0, 31, 0) NONE");
        e.due(e.told("s1,1;w1,0;w1,0;z0,1,0;"), "least(0, 3, 0) 4", "least(0, 4, 0) BAD");
        e.due(e.told(wide), "least(0, 63, 1) 0", "least(0, 64, 0) BAD");
    }

    private static void waysCall() {
        e.says("Terms 3.1", "WAYS for a PERSON, a set, k MOVES (0 to 8): how many rows of just k MOVES there are behind which one is OF just these.");
        e.says("Promise 23", "WAYS.");
        Edges.Used x = e.told("s1,1;o1,0;o1,0;o1,0;z1,0,0;");
        e.due(x, "ways(0, 0, 0) 1", "ways(0, 1, 0) 0", "ways(0, 0, 1) 3", "ways(0, 0, 2) 5", "ways(0, 7, 8) 0");
        // in and out of two open gates: each time as many as the two times before
        int[] rabbits = {1, 2, 3, 5, 8, 13, 21, 34, 55};
        Edges.Used two = e.told("s1,1;o9,0;o9,0;z0,0,0;");
        for (int k = 0; k <= 8; k++) e.due(two, "ways(0, 0, " + k + ") " + rabbits[k]);
        // a jaw and a wide one: in at 0, or up; in, out; up, in; in, out, in (or up); up, in, out
        Edges.Used y = e.told("s1,1;j1,0;w1,0;z0,1,0;");
        e.due(y, "ways(0, 0, 0) 1", "ways(0, 1, 0) 0", "ways(0, 1, 1) 1", "ways(0, 0, 1) 1", "ways(0, 1, 2) 1", "ways(0, 2, 2) 1", "ways(0, 0, 2) 1",
            "ways(0, 1, 3) 3", "ways(0, 2, 3) 1", "ways(0, 0, 3) 1", "ways(0, 3, 3) 0", "ways(0, 3, 4) 1");
        int all = 0;
        for (int set = 0; set < 4; set++) all += e.answer(y, "ways(0, " + set + ", 8)");
        if (all != 55) e.complain("rows of eight moves are " + all + ", due are 55");
        e.says("Promise 23", "BAD: likewise.");
        e.refused("ways(0, 4, -1) BAD", "ways(0, 4, 9) BAD", "ways(0, 4, MIN) BAD", "ways(0, 4, MAX) BAD", "ways(0, 32, 1) BAD",
            "ways(0, 36, 1) BAD", "ways(0, -1, 1) BAD", "ways(0, MIN, 1) BAD",
            "ways(0, MAX, 1) BAD", "ways(-1, 4, 1) BAD", "ways(4, 4, 1) BAD", "ways(MIN, 4, 1) BAD", "ways(MAX, 4, 1) BAD");
        e.due(e.lived(), "ways(0, 31, 8) 0", "ways(3, 31, 0) 0");
        e.due(y, "ways(0, 3, 0) 0", "ways(0, 4, 0) BAD");
    }

    private static void roundsCall() {
        e.says("Terms 3.2", "ROUND for a PERSON, a GATE, n DAYS (1 to 30): the fewest GATES to be turned round now so that the PERSON is OF that GATE behind them:"
            + " how many; which (bits), of several the least; NONE.");
        e.says("Promise 24", "ROUND: how many (what = 0), which (1); NONE.");
        // facing out: of 0 on odd days, of 1 on even ones, and the other way by one turned in
        Edges.Used x = e.told(PAYS + "z0,1,0;");
        e.due(x, "rounds(0, 1, 1, 0) 1", "rounds(0, 1, 1, 1) 2", "rounds(0, 0, 1, 0) NONE", "rounds(0, 0, 1, 1) NONE", "rounds(0, 0, 29, 0) 0",
            "rounds(0, 0, 29, 1) 0",
            "rounds(0, 0, 30, 0) 1", "rounds(0, 0, 30, 1) 1", "rounds(0, 1, 30, 0) 0", "rounds(0, 1, 30, 1) 0");
        e.due(e.told("s1,9;o1,0;t1,0;j1,0;z0,1,0;"), "rounds(0, 1, 2, 0) 2", "rounds(0, 1, 2, 1) 6", "rounds(0, 1, 1, 0) 0", "rounds(0, 2, 2, 0) 0",
            "rounds(0, 0, 9, 0) NONE");
        // of 1 by its own turn (as one comes in) or by that of 2 (that tells as one goes out): the lesser one is told
        e.due(e.told("s1,9;w1,0;w1,1;t1,1;z0,0,0;", "days(2)"), "person(0, 2) 2", "ahead(0, 1, 2) 4", "rounds(0, 1, 1, 0) 1", "rounds(0, 1, 1, 1) 2",
            "round(1) 0", "ahead(0, 1, 2) 6", "undo() 2", "round(2) 0", "ahead(0, 1, 2) 2", "undo() 2", "rounds(0, 1, 1, 1) 2");
        Edges.Used last = e.told("s1,9;o1,0;o1,0;o1,0;o1,0;o1,0;j1,1;z0,1,0;");
        e.due(last, "rounds(0, 5, 5, 0) 1", "rounds(0, 5, 5, 1) 32", "rounds(0, 5, 4, 0) NONE", "fall(5) 32", "rounds(0, 5, 5, 0) NONE");
        e.says("Promise 24", "BAD.");
        e.refused("rounds(-1, 0, 1, 0) BAD", "rounds(4, 0, 1, 0) BAD", "rounds(MAX, 0, 1, 0) BAD", "rounds(0, -1, 1, 0) BAD",
            "rounds(0, 5, 1, 0) BAD", "rounds(0, MIN, 1, 0) BAD",
            "rounds(0, 0, 0, 0) BAD", "rounds(0, 0, 31, 0) BAD", "rounds(0, 0, -1, 0) BAD", "rounds(0, 0, MIN, 0) BAD", "rounds(0, 0, MAX, 0) BAD",
            "rounds(0, 0, 1, -1) BAD",
            "rounds(0, 0, 1, 2) BAD", "rounds(0, 0, 30, MIN) BAD", "rounds(0, 0, 30, MAX) BAD");
    }

    private static void fallsCall() {
        e.says("Terms 3.2", "FALL for n DAYS (1 to 30): the fewest GATES that are not FALLEN to fall now so that nobody is HUNGRY in them:"
            + " how many; which (bits), of several the least; NONE.");
        e.says("Promise 25", "FALL: how many (what = 0), which (1); NONE.");
        // where all are fallen nobody is hungry, so there always are some that do
        e.due(e.told(PAYS + "z0,1,29;"), "falls(1, 0) 0", "falls(1, 1) 0", "falls(29, 0) 0", "falls(29, 1) 0", "falls(30, 0) 1", "falls(30, 1) 1");
        e.due(e.told(PAYS + "z0,1,30;"), "falls(30, 0) 0", "falls(30, 1) 0");
        e.due(e.told(PAYS + "z0,1,0;"), "falls(1, 0) 1", "falls(1, 1) 2", "falls(2, 0) 1", "falls(2, 1) 2", "fall(1) 2", "falls(1, 0) 0",
            "falls(1, 1) 0");
        String poor = "s1,30;j1,1;j1,1;j1,1;j1,1;j1,1;j1,1;z0,1,0;";
        e.due(e.told(poor), "falls(1, 1) 2", "falls(5, 0) 5", "falls(5, 1) 62", "falls(9, 1) 62", "falls(10, 0) 6", "falls(10, 1) 63",
            "falls(30, 1) 63",
            "fall(0) 1", "falls(10, 0) 5", "falls(10, 1) 62", "fall(5) 33", "falls(30, 0) 4", "falls(30, 1) 30", "fall(1) 35", "fall(2) 39",
            "fall(3) 47", "fall(4) 63", "falls(30, 0) 0");
        // 2 alone (by which one stays of 0 and 1) is fewer than 0 and 1, though not less
        e.due(e.told("s1,4;w1,1;w1,1;j3,1;z0,0,10;", "cross(0)", "days(2)"), "person(0, 2) 3", "person(0, 4) 2", "falls(2, 0) 1", "falls(2, 1) 4");
        // nobody: each of two needs a gate of his own; hunger that was does not count
        Edges.Used x = e.told("s1,9;j1,1;j1,1;j1,1;j1,1;z0,1,0;z3,0,0;");
        e.due(x, "falls(1, 0) 2", "falls(1, 1) 6", "days(1) 2", "fall(2) 4", "fall(1) 6", "fall(0) 7", "fall(3) 15", "falls(30, 0) 0");
        e.says("Promise 25", "BAD; STATE: no SHORE (ahead of BAD).");
        e.refused("falls(0, 0) BAD", "falls(31, 0) BAD", "falls(-1, 0) BAD", "falls(MIN, 0) BAD", "falls(MAX, 0) BAD", "falls(1, -1) BAD",
            "falls(1, 2) BAD", "falls(30, MIN) BAD", "falls(30, MAX) BAD");
        e.refusedBare("falls(1, 0) STATE", "falls(30, 1) STATE", "falls(0, 0) STATE", "falls(31, 0) STATE", "falls(1, 2) STATE",
            "falls(MIN, MAX) STATE");
    }

    private static void fellowsAndHomes() {
        e.says("Terms 3.3", "FELLOWS of a PERSON: all others (bits) who are OF just the same.");
        e.says("Promise 26", "FELLOWS.");
        Edges.Used x = e.told("s1,1;w1,0;w1,0;z0,1,9;z0,1,9;z1,1,9;z1,1,9;z0,1,9;");
        e.due(x, "fellows(0) 30", "fellows(4) 15", "cross(0) 1", "fellows(0) 0", "fellows(1) 28", "cross(4) 1", "fellows(0) 16", "fellows(4) 1",
            "cross(2) 2", "fellows(2) 0",
            "days(1) 0", "person(0, 2) 3", "person(2, 2) 3", "person(1, 2) 2", "person(3, 2) 1", "person(4, 2) 3", "fellows(0) 20", "fellows(2) 17",
            "fellows(1) 0", "fellows(3) 0");
        e.due(e.told("s1,1;w1,0;w1,0;z0,1,9;"), "fellows(0) 0");
        e.says("Promise 26", "BAD.");
        e.refused("fellows(-1) BAD", "fellows(4) BAD", "fellows(5) BAD", "fellows(MIN) BAD", "fellows(MAX) BAD");
        e.says("Terms 3.3", "HOMES of a GATE: PEOPLE (bits) OF it.");
        e.says("Promise 27", "HOMES.");
        e.due(x, "homes(0) 29", "homes(1) 23", "fall(0) 1", "homes(0) 29");
        e.due(e.told("s1,1;w1,0;w1,0;z0,1,9;z0,1,9;z0,1,9;z0,1,9;z0,1,9;"), "homes(0) 0", "homes(1) 0", "days(1) 0", "homes(0) 0", "homes(1) 31",
            "days(1) 0", "homes(0) 31");
        e.says("Promise 27", "BAD.");
        e.refused("homes(-1) BAD", "homes(5) BAD", "homes(6) BAD", "homes(MIN) BAD", "homes(MAX) BAD");
    }

    private static void dueShares(Edges.Used x, int n, int... want) {
        for (int p = 0; p < want.length; p++) e.due(x, "share(" + p + ", " + n + ") " + want[p]);
    }

    private static void shareCall() {
        e.says("Terms 3.3", "SHARE of n FISH (0 to 999): each PERSON gets as many as n times how many GATES one is OF by those of all together (cut),"
            + " what is over 1 each to the first ones who are OF any: how many a PERSON gets (0, if nobody is OF any).");
        e.says("Promise 28", "SHARE.");
        Edges.Used none = e.told("s1,1;w1,0;w1,0;z0,1,9;z0,1,9;");
        e.due(none, "share(0, 0) 0", "share(0, 999) 0", "share(1, 999) 0", "cross(1) 1", "share(0, 999) 0", "share(1, 999) 999", "share(1, 0) 0",
            "share(1, 1) 1");
        // 0 is of nowhere, 1 of two, 2 of one, 3 of nowhere, 4 of two: five in all
        Edges.Used x = e.told("s1,1;w1,0;w1,0;z0,1,9;z0,1,9;z0,1,9;z0,1,9;z0,1,9;", "stay(0, 1)", "cross(1)", "cross(2)", "stay(2, 1)", "stay(3, 1)",
            "cross(4)", "days(1)");
        e.due(x, "person(0, 2) 0", "person(1, 2) 3", "person(2, 2) 1", "person(3, 2) 0", "person(4, 2) 3");
        dueShares(x, 0, 0, 0, 0, 0, 0);
        dueShares(x, 1, 0, 1, 0, 0, 0);
        dueShares(x, 2, 0, 1, 1, 0, 0);
        dueShares(x, 3, 0, 2, 0, 0, 1);
        dueShares(x, 4, 0, 2, 1, 0, 1);
        dueShares(x, 5, 0, 2, 1, 0, 2);
        dueShares(x, 6, 0, 3, 1, 0, 2);
        dueShares(x, 998, 0, 400, 199, 0, 399);
        dueShares(x, 999, 0, 400, 200, 0, 399);
        // over by as many as there are, but one
        Edges.Used five = e.told("s1,1;w1,0;w1,0;z0,1,9;z0,1,9;z0,1,9;z0,1,9;z0,1,9;", "days(1)");
        dueShares(five, 4, 1, 1, 1, 1, 0);
        dueShares(five, 999, 200, 200, 200, 200, 199);
        dueShares(five, 995, 199, 199, 199, 199, 199);
        e.says("Promise 28", "BAD.");
        e.refused("share(-1, 0) BAD", "share(4, 0) BAD", "share(MIN, 0) BAD", "share(MAX, 0) BAD", "share(0, -1) BAD", "share(0, 1000) BAD",
            "share(0, MIN) BAD", "share(0, MAX) BAD");
    }
}
