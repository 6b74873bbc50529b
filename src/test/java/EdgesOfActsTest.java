/** Edges of promises 9 to 18: gates and who goes by them, days, acts and their undoing, what is told of gates and people. */
public final class EdgesOfActsTest {
    private static final Edges e = new Edges();
    private static final String SIX = "s1,1;j1,0;w1,0;t1,0;o1,0;m1,0;j1,0;z0,1,9;z1,1,9;z2,1,9;z3,1,9;z5,1,9;";
    // acts that can be done on a shore lived on, one of each kind, and both ways
    private static final String[] ACTS = {"days(1)", "cross(0)", "cross(1)", "turn(0)", "turn(1)", "stay(0, 1)", "stay(3, 0)", "round(1)", "round(0)",
        "fall(0)", "fall(4)", "setUp(1)"};

    public static void main(String[] args) {
        goingInAndOut();
        days();
        eating();
        actsKept();
        undoCall();
        daysCall();
        crossTurnStay();
        gateActs();
        lookups();
        for (int k = 9; k <= 18; k++) e.covers("Promise " + k);
        e.covers("Terms 2.0", "Terms 2.1", "Terms 2.2");
        e.end();
    }

    /** One who is of gate 0 goes in by gate 1 of a sort, out, in, out: what one is of each time. */
    private static void dueOf(char sort, int facing, String between, int... of) {
        Edges.Used x = e.told("s1,1;w1,0;" + sort + "1," + facing + ";w1,0;z0,1,50;");
        e.due(x, "cross(0) 1", "person(0, 1) 1");
        if (!between.isEmpty()) e.answer(x, between);
        e.due(x, "days(1) 0", "person(0, 0) 1", "person(0, 1) 1", "person(0, 2) " + of[0]);
        for (int i = 1; i < of.length; i++) e.due(x, "cross(0) " + of[i], "person(0, 1) " + (i + 1) % 2, "person(0, 2) " + of[i]);
        e.due(x, "person(0, 0) 1");
    }

    private static void goingInAndOut() {
        e.says("Terms 2.0", "One is at a GATE, INSIDE or OUTSIDE, and OF some (a set of GATES).");
        e.due(e.told(SIX), "person(4, 0) 5", "person(4, 1) 0", "person(4, 2) 0", "cross(4) 32", "person(4, 0) 5", "person(4, 1) 1",
            "person(4, 2) 32");
        e.says("Terms 2.0", "Going IN by a jaw one is OF just that GATE;");
        dueOf('j', 0, "", 2);
        e.says("Terms 2.0", "by a wide one OF it, too;");
        dueOf('w', 0, "", 3);
        e.says("Terms 2.0", "by one that tells as by a jaw;");
        dueOf('t', 0, "", 2);
        e.says("Terms 2.0", "by an open one, a smoke hole nothing changes.");
        dueOf('o', 0, "", 1);
        dueOf('m', 0, "", 1);
        e.says("Terms 2.0", "by a smoke hole OF nowhere;");
        dueOf('m', 0, "", 1, 0, 0, 0);
        e.says("Terms 2.0", "by others nothing changes.");
        dueOf('j', 0, "", 2, 2, 2, 2);
        dueOf('w', 0, "", 3, 3, 3, 3);
        dueOf('o', 0, "", 1, 1, 1, 1);
        e.says("Terms 2.0", "Going OUT by one that tells one is OF it no more;");
        dueOf('t', 0, "", 2, 0, 2, 0);
        // out by one that tells one is of the others still: of both by way of its fall
        Edges.Used x = e.told("s1,1;t1,0;w1,0;z0,1,50;");
        e.due(x, "cross(0) 1", "fall(0) 1", "days(1) 0", "person(0, 2) 3", "days(1) 0", "person(0, 0) 0", "person(0, 2) 3", "setUp(0) 0",
            "cross(0) 2", "cross(0) 1");
        e.says("Terms 2.0", "By a GATE that faces out IN is as OUT told so, OUT as IN;");
        dueOf('j', 1, "", 1, 2, 2, 2);
        dueOf('w', 1, "", 1, 3, 3, 3);
        dueOf('t', 1, "", 1, 2, 0, 2);
        dueOf('o', 1, "", 1, 1, 1, 1);
        dueOf('m', 1, "", 0, 0, 0, 0);
        Edges.Used smoke = e.told("s1,1;w1,0;m1,0;z0,1,50;");
        e.due(smoke, "cross(0) 1", "days(1) 0", "round(1) 1", "cross(0) 1", "cross(0) 0");
        Edges.Used teller = e.told("s1,1;t1,0;w1,0;z0,1,50;");
        e.due(teller, "cross(0) 1", "fall(0) 1", "days(1) 0", "setUp(0) 0", "round(0) 1", "days(1) 0", "person(0, 2) 2", "cross(0) 1");
        e.says("Terms 2.0", "by one that is FALLEN nothing changes.");
        for (char sort : "jwtom".toCharArray()) {
            dueOf(sort, 0, "fall(1)", 1, 1, 1, 1);
            dueOf(sort, 1, "fall(1)", 1, 1, 1, 1);
        }
    }

    private static void days() {
        e.says("Terms 2.1", "A DAY, PERSON by PERSON: one who STAYS does not go;");
        // who stays, outside and inside, by a gate that would take or tell
        Edges.Used x = e.told("s1,1;t1,0;t1,0;z0,1,9;z0,1,9;", "stay(0, 1)", "cross(1)", "stay(1, 1)", "days(1)");
        e.due(x, "person(0, 0) 0", "person(0, 1) 0", "person(0, 2) 0", "person(0, 4) 9", "person(1, 0) 0", "person(1, 1) 1", "person(1, 2) 1",
            "person(1, 4) 10");
        e.due(x, "stay(1, 0) 1", "days(1) 0", "person(1, 0) 1", "person(1, 2) 2", "person(0, 0) 0");
        e.says("Terms 2.1", "else one who is INSIDE goes OUT;");
        // by a jaw that faces out one who is inside goes out and is of it, one who is outside does not
        Edges.Used out = e.told("s1,1;j1,1;o1,0;z0,1,9;z0,1,9;", "cross(1)", "days(1)");
        e.due(out, "person(0, 2) 0", "person(1, 2) 1", "person(0, 0) 1", "person(1, 0) 1", "person(0, 1) 1", "person(1, 1) 1");
        e.says("Terms 2.1", "then walks to the next GATE by HEADING"
            + " (up: of the next greater number; if there is none, one turns, HEADING is the other one), and goes IN there.");
        // up to the last and back, down to the first and back: heading is turned as one leaves the end, not as one comes
        Edges.Used y = e.told("s1,1;o1,0;o1,0;o1,0;z0,1,0;z2,0,0;z0,0,0;z2,1,0;");
        int[][] at = {{1, 2, 1, 0, 1}, {1, 0, 1, 2, 1}, {1, 2, 1, 0, 1}, {1, 0, 1, 2, 1}};
        int[][] heading = {{1, 1, 0, 0, 1}, {0, 0, 1, 1, 0}, {1, 1, 0, 0, 1}, {0, 0, 1, 1, 0}};
        for (int day = 0; day < 5; day++) {
            e.due(y, "days(1) 0");
            for (int p = 0; p < 4; p++) {
                e.due(y, "person(" + p + ", 0) " + at[p][day], "person(" + p + ", 3) " + heading[p][day], "person(" + p + ", 1) 1");
            }
        }
        Edges.Used two = e.told("s1,1;o1,0;o1,0;z0,0,0;");
        e.due(two, "days(1) 0", "person(0, 0) 1", "person(0, 3) 1", "days(1) 0", "person(0, 0) 0", "person(0, 3) 0", "days(1) 0", "person(0, 0) 1",
            "person(0, 3) 1");
        Edges.Used six = e.told("s1,1;o1,0;o1,0;o1,0;o1,0;o1,0;o1,0;z4,1,0;z1,0,0;", "days(1)");
        e.due(six, "person(0, 0) 5", "person(0, 3) 1", "person(1, 0) 0", "person(1, 3) 0", "days(1) 0", "person(0, 0) 4", "person(0, 3) 0",
            "person(1, 0) 1", "person(1, 3) 1");
        e.says("Terms 2.1", "DAY is 1 more.");
        e.due(six, "count(3) 2", "days(1) 0", "count(3) 3", "days(24) 0", "count(3) 27");
    }

    /** One goes to gate 1 with so much fish: how much one has then, and how often one was hungry. */
    private static void dueFish(String law, String gate, int fish, int then, int hungry, String... ahead) {
        Edges.Used x = e.told(law + "o1,0;" + gate + "z0,1," + fish + ";", ahead);
        e.due(x, "days(1) " + hungry, "person(0, 4) " + then, "person(0, 5) " + hungry, "count(5) " + hungry);
    }

    private static void eating() {
        e.says("Terms 2.1", "Then one who is INSIDE EATS: if OF that GATE, or if it is FALLEN, an open one or a smoke hole: FISH is DINNER more (99 at most);");
        dueFish("s3,4;", "j1,0;", 0, 3, 0);
        dueFish("s3,4;", "w1,0;", 0, 3, 0);
        dueFish("s3,4;", "t1,0;", 0, 3, 0);
        dueFish("s3,4;", "o1,0;", 0, 3, 0);
        dueFish("s3,4;", "o1,1;", 0, 3, 0);
        dueFish("s3,4;", "m1,0;", 0, 3, 0);
        dueFish("s3,4;", "m1,1;", 0, 3, 0);
        dueFish("s1,1;", "o1,0;", 98, 99, 0);
        dueFish("s1,1;", "o1,0;", 99, 99, 0);
        dueFish("s9,1;", "j1,0;", 90, 99, 0);
        dueFish("s9,1;", "j1,0;", 91, 99, 0);
        dueFish("s9,1;", "j1,0;", 89, 98, 0);
        dueFish("s9,1;", "m1,0;", 99, 99, 0);
        for (String gate : new String[] {"j1,1;", "w1,1;", "t1,1;"}) dueFish("s3,4;", gate, 3, 6, 0, "fall(1)");
        e.says("Terms 2.1", "if not so, TOLL less, if one has so much; else one is HUNGRY once more.");
        for (String gate : new String[] {"j1,1;", "w1,1;", "t1,1;"}) {
            dueFish("s3,4;", gate, 5, 1, 0);
            dueFish("s3,4;", gate, 4, 0, 0);
            dueFish("s3,4;", gate, 3, 3, 1);
            dueFish("s3,4;", gate, 0, 0, 1);
            dueFish("s3,30;", gate, 30, 0, 0);
            dueFish("s3,30;", gate, 29, 29, 1);
            dueFish("s3,1;", gate, 1, 0, 0);
            dueFish("s3,1;", gate, 0, 0, 1);
            dueFish("s9,1;", gate, 99, 98, 0);
        }
        // of another gate is not of that gate; one who stays inside eats there each day, or pays, or goes hungry
        Edges.Used x = e.told("s3,4;j1,0;w1,1;z0,1,5;", "cross(0)", "days(1)");
        e.due(x, "person(0, 2) 1", "person(0, 4) 1", "stay(0, 1) 1", "days(2) 2", "person(0, 5) 2", "person(0, 4) 1", "fall(1) 2", "days(1) 2",
            "person(0, 4) 4",
            "setUp(1) 0", "days(1) 2", "person(0, 4) 0", "days(1) 3");
        // of it and fallen, too
        Edges.Used fallen = e.told("s3,30;j1,0;o1,0;z0,1,5;", "cross(0)", "stay(0, 1)", "fall(0)");
        e.due(fallen, "person(0, 2) 1", "days(1) 0", "person(0, 4) 8");
        // one who stays outside neither eats nor pays nor goes hungry
        Edges.Used y = e.told("s3,4;o1,0;j1,1;z0,1,5;z1,1,5;", "stay(0, 1)", "stay(1, 1)");
        e.due(y, "days(24) 0", "person(0, 4) 5", "person(1, 4) 5", "person(1, 5) 0");
        // each is fed by his own: one pays, one goes hungry at the same gate
        Edges.Used both = e.told("s3,4;o1,0;j1,1;z0,1,3;z0,1,4;z0,1,3;");
        e.due(both, "days(1) 2", "person(0, 5) 1", "person(1, 5) 0", "person(2, 5) 1", "person(1, 4) 0", "count(5) 2");
    }

    private static void actsKept() {
        e.says("Terms 2.2", "ACTS (24 at most are kept, of more the oldest is forgotten; each can be undone, the latest first):");
        Edges.Used x = e.told(SIX);
        e.due(x, "turn(0) 0", "count(6) 1");
        for (int i = 2; i <= 24; i++) e.due(x, "round(0) " + (i + 1) % 2, "count(6) " + i);
        e.due(x, "round(0) 0", "count(6) 24");
        Edges.Used y = e.told(SIX, "turn(0)", "days(23)");
        e.due(y, "count(6) 24", "undo() 23", "days(1) 0", "count(6) 24");
        for (int left = 23; left >= 0; left--) e.due(y, "undo() " + left);
        e.due(y, "person(0, 3) 1", "count(3) 0", "undo() STATE", "count(6) 0");
        // one act more: the turn is forgotten and stays
        Edges.Used z = e.told(SIX, "turn(0)", "days(24)");
        e.due(z, "count(6) 24", "count(3) 24");
        for (int left = 23; left >= 0; left--) e.due(z, "undo() " + left, "count(3) " + left);
        e.due(z, "undo() STATE", "person(0, 3) 0", "count(3) 0");
        // far more acts than are kept: the latest 24 come back one by one, each as it was
        Edges.Used far = e.told(SIX, "days(24)", "days(24)", "days(13)");
        for (int left = 23; left >= 14; left--) e.due(far, "undo() " + left);
        e.due(far, "count(3) 51", "round(0) 1", "days(5) 0", "count(6) 20", "days(4) 0", "days(1) 0", "count(6) 24", "count(3) 61");
        for (int left = 23; left >= 15; left--) e.due(far, "undo() " + left);
        e.due(far, "count(3) 52", "gate(0, 1) 1", "undo() 14", "count(3) 51", "gate(0, 1) 1", "undo() 13", "gate(0, 1) 0", "count(3) 51",
            "undo() 12", "count(3) 50");
        for (int left = 11; left >= 0; left--) e.due(far, "undo() " + left);
        e.due(far, "undo() STATE", "count(3) 38");
        e.says("Terms 2.2", "a DAY; one goes IN, or OUT, where one is; one turns (HEADING); one STAYS, or no more; a GATE is turned round (FACING); one falls; a FALLEN one is set up.");
        for (String act : ACTS) {
            Edges.Used made = e.lived();
            long got = e.answer(made, act);
            if (got < 0) e.complain(act + " was refused");
            e.due(made, "count(6) 9", "undo() 8", "status() 3");
            e.same(act + ", undone", made, e.lived());
        }
        // nothing else is an act
        e.due(e.lived(), "feed(0) 3", "row(0, 0, 1) 1", "set(0, 0, 1) 1", "copy(0, 0, 0, 0, 1) 1", "drop(0) 1", "image(0) 1", "ask(0, 0) 2",
            "as(0, 0) 0",
            "shore() -1000102", "ahead(0, 9, 4) 0", "fall(1) STATE", "setUp(0) STATE", "stay(3, 1) STATE", "cross(4) BAD", "turn(4) BAD",
            "round(5) BAD", "days(0) BAD", "count(6) 8");
    }

    private static void undoCall() {
        e.says("Promise 9", "The latest ACT is undone: how many can be undone yet.");
        Edges.Used x = e.told(SIX);
        e.due(x, "cross(1) 2", "turn(1) 0", "stay(1, 1) 2", "round(1) 1", "fall(1) 2", "setUp(1) 0", "days(1) 0");
        e.due(x, "undo() 6", "count(3) 0", "person(0, 0) 0", "person(0, 1) 0", "person(0, 2) 0", "person(0, 4) 9", "person(1, 4) 9", "gate(1, 2) 0",
            "undo() 5", "gate(1, 2) 1", "undo() 4", "gate(1, 2) 0", "gate(1, 1) 1", "undo() 3", "gate(1, 1) 0", "person(1, 6) 1", "undo() 2",
            "person(1, 6) 0",
            "person(1, 3) 0", "undo() 1", "person(1, 3) 1", "person(1, 1) 1", "undo() 0", "person(1, 1) 0", "person(1, 2) 0");
        Edges.Used hungry = e.told("s1,9;j1,1;j1,1;z0,1,0;", "days(3)");
        e.due(hungry, "count(5) 3", "undo() 2", "count(5) 2", "person(0, 5) 2", "undo() 1", "count(5) 1");
        e.says("Promise 9", "STATE: none.");
        e.due(x, "undo() STATE", "undo() STATE", "count(6) 0", "turn(0) 0", "undo() 0", "undo() STATE");
        e.due(e.fresh(), "undo() STATE");
        Edges.Used none = e.lived(), other = e.lived();
        for (int left = 7; left >= 0; left--) {
            e.due(none, "undo() " + left);
            e.due(other, "undo() " + left);
        }
        e.due(none, "undo() STATE", "status() 3");
        e.same("undo() where there is none", none, other);
    }

    private static void daysCall() {
        e.says("Promise 10", "n DAYS (1 to 24), an ACT each: how often all were HUNGRY by then.");
        Edges.Used x = e.told("s1,9;j1,1;j1,1;z0,1,0;z0,1,9;z0,1,0;");
        e.due(x, "days(1) 2", "count(6) 1", "days(1) 5", "days(2) 11", "count(6) 4", "count(3) 4", "count(5) 11", "undo() 3", "count(5) 8");
        e.due(e.told(SIX), "days(24) 0", "count(3) 24", "count(6) 24");
        e.due(e.told(SIX), "days(1) 0", "count(3) 1", "count(6) 1");
        e.says("Promise 10", "BAD; STATE: no SHORE (ahead of BAD); FULL: DAY would be above 999.");
        e.refused("days(0) BAD", "days(25) BAD", "days(-1) BAD", "days(MIN) BAD", "days(MAX) BAD");
        e.refusedBare("days(1) STATE", "days(24) STATE", "days(0) STATE", "days(25) STATE", "days(MIN) STATE", "days(MAX) STATE");
        Edges.Used late = far(975);
        e.due(late, "days(24) 0", "count(3) 999", "days(1) FULL", "days(24) FULL", "days(25) BAD", "days(0) BAD", "days(MAX) BAD", "undo() 23",
            "days(2) FULL", "days(1) 0", "count(3) 999");
        e.due(late, "ahead(0, 60, 4) 0", "first(0) NONE", "drawn(60, 1, 0) 0", "falls(30, 0) 0", "fed(0, 30, 5, 0) 1", "image(0) 1", "turn(0) 0",
            "restore(0) 1", "count(3) 999", "days(1) FULL");
        Edges.Used made = far(976);
        e.due(made, "days(24) FULL", "status() 0");
        e.same("days(24) at 976", made, far(976));
        e.due(far(976), "days(24) FULL", "count(3) 976", "count(6) 24", "days(23) 0", "count(3) 999");
    }

    private static Edges.Used far(int day) {
        Edges.Used x = e.told("s1,1;o1,0;o1,0;z0,1,0;");
        for (int left = day; left > 0; left -= 24) e.answer(x, "days(" + Math.min(24, left) + ")");
        return x;
    }

    private static void crossTurnStay() {
        e.says("Promise 11", "IN, or OUT, where one is: OF then (bits).");
        e.due(e.told(SIX), "cross(0) 1", "person(0, 1) 1", "cross(0) 1", "person(0, 1) 0", "cross(1) 2", "cross(2) 4", "cross(2) 0", "cross(4) 32",
            "person(4, 0) 5",
            "person(4, 4) 9", "count(3) 0", "count(6) 6", "stay(0, 1) 1", "cross(0) 1", "person(0, 1) 1");
        e.says("Promise 11", "BAD.");
        e.refused("cross(-1) BAD", "cross(4) BAD", "cross(5) BAD", "cross(MIN) BAD", "cross(MAX) BAD");
        e.due(e.told(SIX), "cross(4) 32", "cross(5) BAD");
        e.says("Promise 12", "HEADING then.");
        e.due(e.told(SIX), "turn(0) 0", "person(0, 3) 0", "turn(0) 1", "person(0, 3) 1", "turn(4) 0", "person(3, 3) 1", "count(6) 3");
        e.says("Promise 12", "BAD.");
        e.refused("turn(-1) BAD", "turn(4) BAD", "turn(5) BAD", "turn(MIN) BAD", "turn(MAX) BAD");
        e.says("Promise 13", "STAYS (1), or no more (0): who does (bits).");
        e.due(e.told(SIX), "stay(0, 1) 1", "stay(4, 1) 17", "stay(2, 1) 21", "stay(1, 1) 23", "stay(3, 1) 31", "stay(0, 0) 30", "person(0, 6) 0",
            "person(4, 6) 1",
            "stay(4, 0) 14", "stay(1, 0) 12", "stay(2, 0) 8", "stay(3, 0) 0", "count(6) 10");
        e.says("Promise 13", "BAD; STATE: it is so.");
        e.refused("stay(-1, 1) BAD", "stay(4, 1) BAD", "stay(5, 0) BAD", "stay(MIN, 0) BAD", "stay(MAX, 1) BAD", "stay(0, 2) BAD", "stay(0, -1) BAD",
            "stay(3, 2) BAD",
            "stay(3, MIN) BAD", "stay(3, MAX) BAD", "stay(3, 1) STATE", "stay(2, 1) STATE", "stay(0, 0) STATE", "stay(1, 0) STATE");
    }

    private static void gateActs() {
        e.says("Promise 14", "Turned round: FACING then.");
        e.due(e.told(SIX), "round(0) 1", "gate(0, 1) 1", "round(0) 0", "gate(0, 1) 0", "round(5) 1", "gate(5, 1) 1", "gate(4, 1) 0", "fall(5) 32",
            "round(5) 0", "count(4) 32", "count(6) 5");
        e.says("Promise 14", "BAD.");
        e.refused("round(-1) BAD", "round(5) BAD", "round(6) BAD", "round(MIN) BAD", "round(MAX) BAD", "round(32) BAD");
        e.says("Promise 15", "It falls: FALLEN ones (bits).");
        e.due(e.told(SIX), "fall(5) 32", "fall(0) 33", "fall(3) 41", "fall(1) 43", "fall(2) 47", "fall(4) 63", "count(4) 63", "count(6) 6",
            "gate(5, 1) 0");
        e.says("Promise 15", "BAD; STATE: it is.");
        e.refused("fall(-1) BAD", "fall(5) BAD", "fall(6) BAD", "fall(MIN) BAD", "fall(MAX) BAD", "fall(33) BAD", "fall(1) STATE");
        e.says("Promise 16", "Set up: FALLEN ones (bits).");
        e.due(e.told(SIX, "fall(0)", "fall(5)", "fall(2)"), "setUp(5) 5", "gate(5, 2) 0", "setUp(0) 4", "setUp(2) 0", "count(4) 0", "count(6) 6");
        e.says("Promise 16", "BAD; STATE: it is not FALLEN.");
        e.refused("setUp(-1) BAD", "setUp(5) BAD", "setUp(6) BAD", "setUp(MIN) BAD", "setUp(MAX) BAD", "setUp(33) BAD", "setUp(0) STATE",
            "setUp(2) STATE", "setUp(4) STATE");
    }

    private static void lookups() {
        e.says("Promise 17", "Of a GATE: 0 LENGTH, 1 FACING, 2 whether FALLEN (1, 0), 3 who is INSIDE (bits), 4 who is OUTSIDE at it (bits).");
        Edges.Used x = e.told("s1,1;j1,0;w9,1;z0,1,9;z0,1,9;z0,1,9;z0,1,9;z0,1,9;", "cross(0)", "cross(4)", "fall(1)");
        int[][] gates = {{1, 0, 0, 17, 14}, {9, 1, 1, 0, 0}};
        for (int g = 0; g < 2; g++) {
            for (int what = 0; what < 5; what++) e.due(x, "gate(" + g + ", " + what + ") " + gates[g][what]);
        }
        e.due(x, "days(1) 0", "gate(0, 3) 0", "gate(0, 4) 0", "gate(1, 3) 31", "gate(1, 4) 0", "cross(2) 0", "gate(1, 3) 27", "gate(1, 4) 4");
        e.says("Promise 17", "BAD.");
        e.refused("gate(-1, 0) BAD", "gate(5, 0) BAD", "gate(6, 4) BAD", "gate(MIN, 0) BAD", "gate(MAX, 0) BAD", "gate(0, -1) BAD", "gate(0, 5) BAD",
            "gate(0, MIN) BAD", "gate(0, MAX) BAD");
        e.says("Promise 18",
            "Of a PERSON: 0 the GATE, 1 whether INSIDE (1, 0), 2 OF (bits), 3 HEADING, 4 FISH, 5 how often HUNGRY, 6 whether one STAYS (1, 0).");
        Edges.Used y = e.told("s1,3;j1,1;w9,1;z0,0,99;z1,1,0;", "days(2)", "stay(1, 1)");
        // 0: to 1, out of it (as in) of it, to 0; 1: to 0, out of it of it, to 1
        int[][] people = {{0, 1, 2, 0, 93, 0, 0}, {1, 1, 1, 1, 0, 2, 1}};
        for (int p = 0; p < 2; p++) {
            for (int what = 0; what < 7; what++) e.due(y, "person(" + p + ", " + what + ") " + people[p][what]);
        }
        e.says("Promise 18", "BAD.");
        e.refused("person(-1, 0) BAD", "person(4, 0) BAD", "person(5, 6) BAD", "person(MIN, 0) BAD", "person(MAX, 0) BAD", "person(0, -1) BAD",
            "person(0, 7) BAD",
            "person(0, MIN) BAD", "person(0, MAX) BAD");
    }
}
