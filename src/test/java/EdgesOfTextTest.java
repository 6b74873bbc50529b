/** Edges of promises 6 to 8: the tape, the text of a shore, its faults. */
public final class EdgesOfTextTest {
    private static final Edges e = new Edges();
    private static final String LAW = "s1,1;", TWO = LAW + "j1,0;w1,0;", SIX = TWO + "t1,0;o1,0;m1,0;j1,0;", ONE = "z0,0,0;";
    private static final String FIVE_PEOPLE = ONE + ONE + ONE + ONE + ONE;
    // each number with two figures, all the room there is for gates and people: the longest text that can be read
    private static final String LONGEST = "s09,30;j09,01;w09,01;t09,01;o09,01;m09,01;j09,01;"
        + "z05,01,99;z05,01,99;z05,01,99;z05,01,99;z05,01,99;";

    public static void main(String[] args) {
        feedCall();
        tokens();
        grammar();
        law();
        gates();
        people();
        standsInPlace();
        faults();
        shoreCall();
        faultCall();
        e.covers("Promise 6", "Promise 7", "Promise 8", "Terms 1.1", "Terms 1.2");
        e.end();
    }

    private static void feedCall() {
        e.says("Promise 6", "A byte (0 to 255) comes behind the tape: how many it has.");
        e.due(e.fresh(), "feed(0) 1", "feed(255) 2", "feed(115) 3", "count(7) 3");
        e.says("Promise 6", "BAD; FULL.");
        e.refused("feed(-1) BAD", "feed(256) BAD", "feed(MIN) BAD", "feed(MAX) BAD", "feed(371) BAD");
        e.refusedBare("feed(-1) BAD", "feed(256) BAD");
        e.says("Terms 1.1", "TEXTS: THE TAPE has at most 100 bytes, that come one by one;");
        Edges.Used x = e.fresh();
        for (int i = 1; i <= 99; i++) e.due(x, "feed(115) " + i);
        e.due(x, "feed(255) 100", "feed(0) FULL", "feed(255) FULL", "feed(256) BAD", "feed(-1) BAD", "count(7) 100", "shore() -1000101",
            "count(7) 0", "feed(115) 1");
        // the byte that found no room is not read: the longest text is still one sign short of the room
        Edges.Used full = e.fresh();
        e.feed(full, LONGEST + "x");
        e.due(full, "count(7) 100", "feed(59) FULL", "shore() -1000199", "fault() 1");
    }

    private static void tokens() {
        e.says("Terms 1.1", "TOKENS: letters a to z (each by itself), NUMBERS (figures, 2 at most), SIGNS , and ; nothing else.");
        e.dueFault("ss1,1;", 1, 1);
        e.dueFault(LAW + "jj", 6, 1);
        e.dueRead("s9,9;j9,0;w9,1;z0,0,9;", 2, "gate(1, 0) 9", "person(0, 4) 9");
        e.dueRead("s09,09;j09,00;w09,01;z01,00,09;", 2, "gate(0, 0) 9", "gate(0, 1) 0", "gate(1, 1) 1", "person(0, 0) 1", "person(0, 3) 0",
            "person(0, 4) 9");
        e.dueRead("s01,01;j01,00;w01,01;z00,01,00;", 2, "gate(0, 0) 1", "person(0, 0) 0", "person(0, 3) 1", "person(0, 4) 0");
        e.dueRead(TWO + "z0,0,10;", 2, "person(0, 4) 10");
        e.dueRead(TWO + "z0,0,90;", 2, "person(0, 4) 90");
        e.dueFault("s001,1;", 1, 1);
        e.dueFault("s1,001;", 3, 1);
        e.dueFault("s1,0001;", 3, 1);
        e.dueFault(LAW + "j001,0;", 6, 1);
        e.dueFault(LAW + "j1,000;", 8, 1);
        e.dueFault(TWO + "z000,0,0;", 16, 1);
        e.dueFault(TWO + "z0,001,0;", 18, 1);
        e.dueFault(TWO + "z0,0,000;", 20, 1);
        e.dueFault(TWO + "z0,0,4294967296;", 20, 1);
        e.dueFault("s" + "1".repeat(99), 1, 1);
        // the signs beside figures and letters, blanks, signs above 127 are no tokens
        for (char c : new char[] {'/', ':', '`', '{', '@', '[', 'A', 'Z', 'S', ' ', '\n', '\t', '+', '-', '.', '<', 0, 127, 128, 176, 177, 185, 255}) {
            e.dueFault(c + "s1,1;", 0, 1);
            e.dueFault("s" + c, 1, 1);
            e.dueFault("s1" + c + ",1;", 2, 1);
            e.dueFault(TWO + c, 15, 1);
            e.dueFault(TWO + ONE + c, 22, 1);
        }
    }

    /** Whatever comes behind a text that is right so far: every byte but those that may come is a fault there. */
    private static void dueNext(String before, String mayCome, String noRoom, boolean isWhole) {
        if (!isWhole) e.dueFault(before, before.length(), 1);
        int place = before.length();
        boolean behindFigure = Character.isDigit(before.isEmpty() ? 'x' : before.charAt(place - 1));
        for (char c = 0; c < 256; c++) {
            boolean isFigure = c >= '0' && c <= '9';
            if ((before + c).equals(TWO + ONE)) e.dueRead(before + c, 2);
            else if (mayCome.indexOf(c) >= 0) e.dueFault(before + c, place + 1, 1);
            else if (noRoom.indexOf(c) >= 0) e.dueFault(before + c, place, 3);
            else if (isFigure && mayCome.indexOf('1') >= 0) e.dueFault(before + c, place, 2);
            else if (!(isFigure && behindFigure)) e.dueFault(before + c, place, 1);
        }
    }

    private static void grammar() {
        e.says("Terms 1.1", "shore: law gate gate { gate } person { person }.");
        dueNext("", "s", "", false);
        dueNext("s", "123456789", "", false);
        dueNext("s1", ",", "", false);
        dueNext("s1,", "123456789", "", false);
        dueNext("s1,1", ";", "", false);
        dueNext(LAW, "jwtom", "", false);
        dueNext(LAW + "j", "123456789", "", false);
        dueNext(LAW + "j1", ",", "", false);
        dueNext(LAW + "j1,", "01", "", false);
        dueNext(LAW + "j1,0", ";", "", false);
        dueNext(LAW + "j1,0;", "jwtom", "", false);
        dueNext(TWO, "jwtomz", "", false);
        dueNext(TWO + "z", "01", "", false);
        dueNext(TWO + "z0", ",", "", false);
        dueNext(TWO + "z0,", "01", "", false);
        dueNext(TWO + "z0,0", ",", "", false);
        dueNext(TWO + "z0,0,", "0123456789", "", false);
        dueNext(TWO + "z0,0,0", ";", "", false);
        dueNext(TWO + ONE, "z", "", true);
        dueNext(SIX, "z", "jwtom", false);
        dueNext(SIX + "z", "012345", "", false);
        dueNext(TWO + FIVE_PEOPLE, "", "z", true);
        e.dueRead(TWO + ONE, 2, "count(1) 2", "count(2) 1");
        e.dueRead(SIX + FIVE_PEOPLE, 6, "count(1) 6", "count(2) 5");
    }

    private static void law() {
        e.says("Terms 1.1", "law: s DINNER , TOLL ; (1 to 9; 1 to 30).");
        // the dinner is got in an open place, the toll paid at a jaw that faces out
        String open = ";o1,0;o1,0;z0,1,40;", jaw = ";j1,1;j1,1;z0,1,40;";
        e.dueRead("s1,1" + open, 2, "days(1) 0", "person(0, 4) 41");
        e.dueRead("s9,30" + open, 2, "days(1) 0", "person(0, 4) 49");
        e.dueRead("s9,1" + jaw, 2, "days(1) 0", "person(0, 4) 39");
        e.dueRead("s1,30" + jaw, 2, "days(1) 0", "person(0, 4) 10");
        e.dueFault("s0,1" + open, 1, 2);
        e.dueFault("s00,1" + open, 1, 2);
        e.dueFault("s10,1" + open, 1, 2);
        e.dueFault("s99,1" + open, 1, 2);
        e.dueFault("s1,0" + open, 3, 2);
        e.dueFault("s1,31" + open, 3, 2);
        e.dueFault("s1,99" + open, 3, 2);
        e.dueFault("s01,31" + open, 4, 2);
    }

    private static void gates() {
        e.says("Terms 1.1", "gate: SORT LENGTH , FACING ; (SORT: j a jaw, w a wide one, t one that tells, o an open one, m a smoke hole;");
        e.dueRead(SIX + ONE, 6, "kind(0) 1", "kind(1) 2", "kind(2) 3", "kind(3) 4", "kind(4) 5", "kind(5) 1", "kind(6) BAD", "kind(-1) BAD");
        for (char c = 'a'; c <= 'z'; c++) {
            if ("jwtom".indexOf(c) < 0) e.dueFault(LAW + c + "1,0;w1,0;" + ONE, 5, 1);
        }
        e.says("Terms 1.1", "1 to 9 HOURS from it to the next;");
        e.dueRead(LAW + "j1,0;w9,1;" + ONE, 2, "gate(0, 0) 1", "gate(1, 0) 9");
        e.dueFault(LAW + "j0,0;w1,0;" + ONE, 6, 2);
        e.dueFault(LAW + "j10,0;w1,0;" + ONE, 6, 2);
        e.dueFault(TWO + "m0,0;" + ONE, 16, 2);
        e.says("Terms 1.1", "0 in, 1 out;");
        e.dueRead(LAW + "j1,0;w9,1;" + ONE, 2, "gate(0, 1) 0", "gate(1, 1) 1");
        e.dueFault(LAW + "j1,2;w1,0;" + ONE, 8, 2);
        e.dueFault(LAW + "j1,10;w1,0;" + ONE, 8, 2);
        e.dueFault(LAW + "j1,99;w1,0;" + ONE, 8, 2);
        e.says("Terms 1.1", "GATES 0 .. 5, 2 to 6 in a row: behind a single one a gate must come).");
        String gates = "";
        for (int n = 0; n <= 7; n++) {
            String text = LAW + gates + ONE;
            if (n < 2) e.dueFault(text, 5 + 5 * n, 1);
            else if (n < 7) e.dueRead(text, n, "count(1) " + n, "gate(" + (n - 1) + ", 0) 1", "gate(" + n + ", 0) BAD");
            else e.dueFault(text, 35, 3);
            gates += "j1,0;";
        }
    }

    private static void people() {
        e.says("Terms 1.1", "person: z AT , HEADING , FISH ; (a GATE;");
        e.dueRead(TWO + "z0,0,0;z1,1,99;", 2, "person(0, 0) 0", "person(1, 0) 1");
        e.dueFault(TWO + "z2,0,0;", 16, 2);
        e.dueFault(TWO + "z02,0,0;", 16, 2);
        e.dueFault(TWO + "z10,0,0;", 16, 2);
        e.dueRead(SIX + "z5,0,0;", 6, "person(0, 0) 5");
        e.dueFault(SIX + "z6,0,0;", 36, 2);
        e.says("Terms 1.1", "0 down, 1 up;");
        e.dueRead(TWO + "z0,0,0;z1,1,99;", 2, "person(0, 3) 0", "person(1, 3) 1");
        e.dueRead(LAW + "o1,0;o1,0;o1,0;z1,0,0;z1,1,0;", 3, "days(1) 0", "person(0, 0) 0", "person(1, 0) 2");
        e.dueFault(TWO + "z1,2,0;", 18, 2);
        e.dueFault(TWO + "z1,10,0;", 18, 2);
        e.says("Terms 1.1", "0 to 99;");
        e.dueRead(TWO + "z0,0,0;z1,1,99;", 2, "person(0, 4) 0", "person(1, 4) 99");
        e.dueFault(TWO + "z1,0,100;", 20, 1);
        e.says("Terms 1.1", "PEOPLE 0 .. 4, 5 at most).");
        String people = "";
        for (int n = 0; n <= 6; n++) {
            String text = TWO + people;
            if (n == 0) e.dueFault(text, 15, 1);
            else if (n < 6) e.dueRead(text, 2, "count(2) " + n, "person(" + (n - 1) + ", 4) " + n, "person(" + n + ", 4) BAD");
            else e.dueFault(text, 50, 3);
            people += "z0,0," + (n + 1) + ";";
        }
    }

    private static void standsInPlace() {
        e.says("Terms 1.1", "A SHORE that is read stands in place of the one before (none at first): DAY 0, all are OUTSIDE, OF nowhere,"
            + " nobody was HUNGRY, STAYS, no GATE is FALLEN; no ACT can be undone.");
        Edges.Used x = e.lived();
        e.due(x, "count(3) 2", "count(4) 2", "count(5) 1", "count(6) 8", "gate(0, 1) 1", "shore() -1000102");
        e.due(x, "stay(0, 1) 13", "stay(1, 1) 15");
        e.tell(x, "s1,2;j2,0;w5,0;t1,0;z0,1,9;z2,0,7;");
        e.due(x, "count(1) 3", "count(2) 2", "count(3) 0", "count(4) 0", "count(5) 0", "count(6) 0", "count(7) 0", "undo() STATE",
            "gate(0, 1) 0", "gate(1, 2) 0", "gate(2, 1) 0", "gate(3, 0) BAD", "person(2, 0) BAD", "homes(0) 0", "homes(1) 0", "homes(2) 0");
        int[][] people = {{0, 0, 0, 1, 9, 0, 0}, {2, 0, 0, 0, 7, 0, 0}};
        for (int p = 0; p < 2; p++) {
            for (int what = 0; what < 7; what++) e.due(x, "person(" + p + ", " + what + ") " + people[p][what]);
        }
        // rows, the image and the trace are not of the shore; its law is the new one
        e.due(x, "count(0) 4", "trace(0) 12", "days(1) 0", "person(0, 4) 10", "person(1, 4) 8", "days(1) 0", "undo() 1", "restore(1) 1",
            "count(1) 5", "count(3) 1");
    }

    private static void faults() {
        e.says("Terms 1.2", "FAULTS, the first TOKEN that has one (its first byte), of one TOKEN the least:");
        e.dueFault("s0,0;", 1, 2);
        e.dueFault("s10,31;", 1, 2);
        e.dueFault("s1,31;q", 3, 2);
        e.dueFault("s0 ", 1, 2);
        e.dueFault("s 0", 1, 1);
        e.dueFault(SIX + "j0,9;", 35, 3);
        e.dueFault(SIX + "j", 35, 3);
        e.dueFault(TWO + FIVE_PEOPLE + "z9,9,999;", 50, 3);
        // no room for a gate, but none could stand there either; a wrong number where none can stand
        e.dueFault(SIX + ONE + "j1,0;", 42, 1);
        e.dueFault("s1,1;99", 5, 1);
        e.dueFault("s199,1;", 1, 1);
        e.dueFault(LAW + "z", 5, 1);
        e.says("Terms 1.2", "1 it cannot stand there, or is none (a run of three figures, at its first; the end: how many bytes there are);");
        e.dueFault("", 0, 1);
        for (int n = 1; n < LONGEST.length(); n++) {
            // cut behind a person that is whole, but the last, a text is whole; behind a first figure 0 the number is 0
            String text = LONGEST.substring(0, n);
            boolean isWhole = n >= 59 && text.endsWith(";");
            boolean isCutNumber = text.matches(".*[a-z,]0") && n < 50 && (n < 3 || text.charAt(n - 2) != ',');
            if (!isWhole && !isCutNumber) e.dueFault(text, n, 1);
            if (isCutNumber) e.dueFault(text, n - 1, 2);
        }
        e.dueRead(LONGEST, 6, "count(2) 5", "person(4, 4) 99", "person(4, 0) 5");
        e.dueFault("s100,1;", 1, 1);
        e.dueFault("s1,030;", 3, 1);
        e.dueFault(TWO + ONE + "123", 22, 1);
        e.says("Terms 1.2", "2 a NUMBER that is not as told;");
        e.dueFault("s10", 1, 2);
        e.dueFault("s1,31", 3, 2);
        e.dueFault(LAW + "j10", 6, 2);
        e.dueFault(LAW + "j1,02", 8, 2);
        e.dueFault(TWO + "z02", 16, 2);
        e.dueFault(TWO + "z01,02", 19, 2);
        e.says("Terms 1.2", "3 a gate, a person more than there is room for (its letter).");
        for (char c : "jwtom".toCharArray()) e.dueFault(SIX + c + "1,0;" + ONE, 35, 3);
        e.dueFault(SIX + FIVE_PEOPLE + ONE, 70, 3);
        e.dueFault(LONGEST + "z", 99, 3);
        e.dueFault(SIX + FIVE_PEOPLE + "j", 70, 1);
    }

    private static void shoreCall() {
        e.says("Promise 7", "The tape, empty then, is read: how many GATES there are.");
        Edges.Used x = e.fresh();
        String gates = "j1,0;";
        for (int n = 2; n <= 6; n++) {
            gates += "o1,0;";
            e.feed(x, LAW + gates + ONE);
            e.due(x, "count(7) " + (12 + 5 * n), "shore() " + n, "count(7) 0", "count(1) " + n, "shore() -1000100", "count(1) " + n);
        }
        e.says("Promise 7", "-1000100 less the place of a FAULT: all stays.");
        String[] bad = {"", "q", "s1,1", TWO, TWO + "z0,0,0,", SIX + ONE + "o", LONGEST + "x"};
        for (String text : bad) {
            // both have the fault 1 and an empty tape behind them
            Edges.Used made = e.lived(), other = e.lived();
            e.due(made, "shore() -1000102", "count(7) 0");
            e.due(other, "shore() -1000102");
            e.feed(made, text);
            long place = e.answer(made, "shore()");
            if (place > -1000100) e.complain(text + " was read");
            e.due(made, "fault() 1", "status() 3", "count(7) 0");
            e.same("the fault of " + text, made, other);
        }
        Edges.Used none = e.fresh();
        e.feed(none, TWO);
        e.due(none, "shore() -1000115", "count(1) 0", "count(2) 0", "count(7) 0", "days(1) STATE", "gate(0, 0) BAD");
    }

    private static void faultCall() {
        e.says("Promise 8", "The number of the latest FAULT; 0 before one.");
        Edges.Used x = e.fresh("feed(115)", "days(1)", "row(9, 0, 0)", "set(0, 0, 0)");
        e.due(x, "fault() 0", "feed(256) BAD", "fault() 0");
        Edges.Used y = e.told(TWO + ONE);
        e.due(y, "fault() 0", "shore() -1000100", "fault() 1", "fault() 1");
        e.feed(y, "s0");
        e.due(y, "fault() 1", "shore() -1000101", "fault() 2");
        e.feed(y, SIX + "j");
        e.due(y, "shore() -1000135", "fault() 3");
        e.feed(y, TWO + ONE);
        e.due(y, "shore() 2", "fault() 3", "days(1) 0", "fault() 3", "image(0) 1", "restore(0) 1", "fault() 3");
        e.feed(y, " ");
        e.due(y, "shore() -1000100", "fault() 1");
    }
}
