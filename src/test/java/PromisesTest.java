/** Each promise by hand: ordinary inputs, edges, wrong inputs. Answers were worked out from the document. */
public final class PromisesTest {
    private static final int NONE = -1000000, BAD = -1000001, STATE = -1000002, FULL = -1000003;
    private static final int NULL = -1000011, PLACE = -1000012, KIND = -1000013, SIZE = -1000014, STORE = -1000015;
    private static final String FIVE = "s3,4;j2,0;w5,0;t1,1;o3,0;m4,0;z0,1,9;z3,0,0;z4,1,20;z2,0,5;";
    private static final String OUTWARD = "s1,9;j1,1;j1,1;z0,1,3;";
    private static final int LEAST_INT = Integer.MIN_VALUE, MOST_INT = Integer.MAX_VALUE;
    private static int wrong = 0;
    private static String part = "";

    private static void due(String call, long got, long want) {
        if (got != want) {
            wrong++;
            System.out.println(part + ": " + call + " answered " + got + ", due is " + want);
        }
    }

    private static void feedAll(JawShores x, String text) {
        for (int i = 0; i < text.length(); i++) {
            x.feed(text.charAt(i));
        }
    }

    private static JawShores told(String text) {
        JawShores x = new JawShores();
        feedAll(x, text);
        x.shore();
        return x;
    }

    private static void dueFault(String text, int place, int number) {
        JawShores x = new JawShores();
        feedAll(x, text);
        due("shore of " + text, x.shore(), -1000100 - place);
        due("fault of " + text, x.fault(), number);
        due("count(1) of " + text, x.count(1), 0);
    }

    private static void duePerson(JawShores x, int p, int... want) {
        for (int what = 0; what < want.length; what++) {
            due("person(" + p + ", " + what + ")", x.person(p, what), want[what]);
        }
    }

    private static void dueTrace(JawShores x, int... want) {
        for (int i = 0; i < want.length; i++) {
            due("trace(" + i + ")", x.trace(i), want[i]);
        }
        due("trace behind the last", x.trace(want.length), NONE);
    }

    private static JawShores withDinners(JawShores x, int... dinners) {
        x.row(0, 2, dinners.length);
        for (int i = 0; i < dinners.length; i++) {
            x.set(0, i, dinners[i]);
        }
        return x;
    }

    public static void main(String[] args) {
        newObject();
        rows();
        copies();
        tapeAndFaults();
        faultKinds();
        daysAndUndo();
        acts();
        lookups();
        aheadWhenFirst();
        leastAndWays();
        roundsAndFalls();
        fellowsHomesShare();
        whatAndWho();
        fedAndDrawn();
        images();
        kindsAndAsks();
        statusOfCalls();
        System.out.println(wrong == 0 ? "all promises hold" : wrong + " answers are not as due");
        if (wrong != 0) {
            System.exit(1);
        }
    }

    private static void newObject() {
        part = "promise 1";
        JawShores x = new JawShores();
        for (int what = 0; what <= 7; what++) {
            due("count(" + what + ")", x.count(what), 0);
        }
        due("count(-1)", x.count(-1), BAD);
        due("count(8)", x.count(8), BAD);
        due("fault()", x.fault(), 0);
        due("status()", x.status(), 0);
        due("undo()", x.undo(), STATE);
        due("days(0)", x.days(0), STATE);
        due("first(7)", x.first(7), STATE);
        due("falls(0, 7)", x.falls(0, 7), STATE);
        due("drawn(-1, 0, 7)", x.drawn(-1, 0, 7), STATE);
        due("image(0)", x.image(0), STATE);
        due("restore(1)", x.restore(1), STATE);
        due("trace(0)", x.trace(0), NONE);
        due("trace(-1)", x.trace(-1), NONE);
        due("least(0, 0, 0)", x.least(0, 0, 0), BAD);
        due("ways(0, 0, 0)", x.ways(0, 0, 0), BAD);
        due("kind(0)", x.kind(0), BAD);
    }

    private static void rows() {
        part = "promises 2, 3, 5";
        JawShores x = new JawShores();
        due("row(7, 2, 40)", x.row(7, 2, 40), 40);
        due("row(0, 0, 0)", x.row(0, 0, 0), 0);
        due("count(0)", x.count(0), 2);
        due("row(-1, 0, 1)", x.row(-1, 0, 1), BAD);
        due("row(8, 0, 1)", x.row(8, 0, 1), BAD);
        due("row(0, -1, 1)", x.row(0, -1, 1), BAD);
        due("row(0, 3, -1)", x.row(0, 3, -1), BAD);
        due("row(0, 0, 41)", x.row(0, 0, 41), BAD);
        due("row(7, 0, -1)", x.row(7, 0, -1), SIZE);
        due("row(7, 0, least)", x.row(7, 0, LEAST_INT), SIZE);
        due("set(7, 39, v)", x.set(7, 39, LEAST_INT), LEAST_INT);
        due("set(7, 40, 1)", x.set(7, 40, 1), PLACE);
        due("set(7, -1, 1)", x.set(7, -1, 1), PLACE);
        due("set(7, most, 1)", x.set(7, MOST_INT, 1), PLACE);
        due("set(0, 0, 1)", x.set(0, 0, 1), PLACE);
        due("set(1, 99, 1)", x.set(1, 99, 1), NULL);
        due("set(8, 0, 1)", x.set(8, 0, 1), BAD);
        due("set(-1, 0, 1)", x.set(-1, 0, 1), BAD);
        x.row(1, 0, 2);
        x.row(2, 1, 2);
        due("a byte", x.set(1, 0, 200), -56);
        due("a byte", x.set(1, 1, 128 + 256), -128);
        due("a short", x.set(2, 0, 200), 200);
        due("a short", x.set(2, 1, 32768), -32768);
        due("drop(1)", x.drop(1), 2);
        due("drop(1)", x.drop(1), NULL);
        due("drop(8)", x.drop(8), BAD);
        due("drop(-1)", x.drop(-1), BAD);
        due("drop(0)", x.drop(0), 0);
        due("count(0)", x.count(0), 2);
    }

    private static void copies() {
        part = "promise 4";
        JawShores x = told(OUTWARD);
        x.row(0, 2, 4);
        x.row(1, 2, 2);
        x.row(2, 1, 2);
        due("copy(0, 0, 0, 0, 4)", x.copy(0, 0, 0, 0, 4), 4);
        due("copy(0, 4, 1, 2, 0)", x.copy(0, 4, 1, 2, 0), 0);
        due("copy(0, 5, 1, 0, 0)", x.copy(0, 5, 1, 0, 0), PLACE);
        due("copy(0, 0, 1, 3, 0)", x.copy(0, 0, 1, 3, 0), PLACE);
        due("copy(0, 0, 1, 0, 3)", x.copy(0, 0, 1, 0, 3), PLACE);
        due("copy(0, 3, 1, 0, 2)", x.copy(0, 3, 1, 0, 2), PLACE);
        due("copy(0, -1, 1, 0, 1)", x.copy(0, -1, 1, 0, 1), PLACE);
        due("copy(0, 0, 1, -1, 1)", x.copy(0, 0, 1, -1, 1), PLACE);
        due("copy(0, 0, 1, 0, -1)", x.copy(0, 0, 1, 0, -1), PLACE);
        due("copy, wrapping", x.copy(0, MOST_INT, 1, 0, 1), PLACE);
        due("copy, wrapping", x.copy(0, 1, 1, 0, MOST_INT), PLACE);
        due("copy, lanes ahead of places", x.copy(0, -1, 2, 0, -1), STORE);
        due("copy, missing ahead of lanes", x.copy(2, -1, 3, 0, -1), NULL);
        due("copy, missing", x.copy(3, 0, 2, 0, 1), NULL);
        due("copy(8, ..)", x.copy(8, 0, 3, 0, 0), BAD);
        due("copy(.., -1, ..)", x.copy(3, 0, -1, 0, 0), BAD);
        overlap();
    }

    /** Items are seen only by asks for dinners: 1 0 0 0 copied one on must be 1 1 0 0, not 1 1 1 1. */
    private static void overlap() {
        JawShores x = withDinners(told("s1,9;j1,1;j1,1;z0,1,9;"), 1, 0, 0, 0);
        // nine fish pay for one dinner: 1 0 0 0
        due("who as it was", x.who(0, 2, 0, 0, 4) & 64, 64);
        due("copy up", x.copy(0, 0, 0, 1, 3), 3);
        due("who behind it, from 1", x.who(0, 2, 0, 1, 3) & 64, 64);
        due("who behind it, from 0", x.who(0, 2, 0, 0, 4) & 64, 0);
        due("copy down", x.copy(0, 1, 0, 0, 3), 3);
        due("who behind that", x.who(0, 2, 0, 0, 4) & 64, 64);
        due("a row anew has 0", x.row(0, 2, 4), 4);
        due("who of 0 0 0 0", x.who(0, 2, 0, 0, 4) & 64, 0);
    }

    private static void tapeAndFaults() {
        part = "promises 6, 7, 8";
        JawShores x = new JawShores();
        due("feed(-1)", x.feed(-1), BAD);
        due("feed(256)", x.feed(256), BAD);
        for (int i = 1; i <= 100; i++) {
            due("feed", x.feed(i % 2 == 0 ? 0 : 255), i);
        }
        due("feed beyond", x.feed(65), FULL);
        due("feed beyond, not a byte", x.feed(256), BAD);
        due("count(7)", x.count(7), 100);
        due("shore()", x.shore(), -1000100);
        due("count(7)", x.count(7), 0);
        due("shore()", x.shore(), -1000100);
        feedAll(x, FIVE);
        due("shore()", x.shore(), 5);
        due("fault() stays", x.fault(), 1);
        due("count(7)", x.count(7), 0);
        x.days(2);
        x.fall(0);
        feedAll(x, "s3,4;j2,9;");
        due("shore()", x.shore(), -1000108);
        due("fault()", x.fault(), 2);
        due("all stays: gates", x.count(1), 5);
        due("all stays: day", x.count(3), 2);
        due("all stays: acts", x.count(6), 3);
        feedAll(x, "s09,30;j09,01;m1,00;z01,1,00;");
        due("shore() with two figures", x.shore(), 2);
        due("count(2)", x.count(2), 1);
        due("count(3)", x.count(3), 0);
        due("count(4)", x.count(4), 0);
        due("count(5)", x.count(5), 0);
        due("count(6)", x.count(6), 0);
        due("gate(0, 0)", x.gate(0, 0), 9);
        due("gate(0, 1)", x.gate(0, 1), 1);
        duePerson(x, 0, 1, 0, 0, 1, 0, 0, 0);
    }

    private static void faultKinds() {
        String law = "s1,1;";
        String two = law + "j1,0;w1,0;";
        String six = two + "t1,0;o1,0;m1,0;j1,0;";
        String person = "z0,0,0;";
        dueFault("", 0, 1);
        dueFault("x", 0, 1);
        dueFault(" ", 0, 1);
        dueFault("S", 0, 1);
        dueFault("s,", 1, 1);
        dueFault("s9 ", 2, 1);
        dueFault("s100,1;", 1, 1);
        dueFault("s1,030;", 3, 1);
        dueFault("s00,1;", 1, 2);
        dueFault("s10,1;", 1, 2);
        dueFault("s9,0;", 3, 2);
        dueFault("s9,31;", 3, 2);
        dueFault("s9,30;j0,0;", 7, 2);
        dueFault("s9,30;j9,2;", 9, 2);
        dueFault("s9,30;j9,0;z0,0,0;", 11, 1);
        dueFault("s1;", 2, 1);
        dueFault("s1,1,", 4, 1);
        dueFault("s1,30;j10,0;", 7, 2);
        dueFault(law + "z", 5, 1);
        dueFault(law + "j1,0;;", 10, 1);
        dueFault(two, 15, 1);
        dueFault(two + "s", 15, 1);
        dueFault(two + "z2,0,0;", 16, 2);
        dueFault(two + "z1,2,0;", 18, 2);
        dueFault(two + "z1,1,100;", 20, 1);
        dueFault(two + "z1,1,99", 22, 1);
        dueFault(two + person + "j1,0;", 22, 1);
        dueFault(two + person + "s", 22, 1);
        dueFault(two + person + ",", 22, 1);
        dueFault(two + person + "\0", 22, 1);
        dueFault(two + person + "5", 22, 1);
        dueFault(six + "j", 35, 3);
        dueFault(six + "m", 35, 3);
        dueFault(six + "q", 35, 1);
        dueFault(six + "z6,0,0;", 36, 2);
        String five = person + person + person + person + person;
        dueFault(two + five + "z", 50, 3);
        dueFault(two + five + "j", 50, 1);
        dueFault(two + five + "z0,0", 50, 3);
        JawShores x = new JawShores();
        feedAll(x, six + "z5,0,99;" + person + person + person + person);
        due("shore of all there is room for", x.shore(), 6);
        due("count(2)", x.count(2), 5);
        for (int g = 0; g < 6; g++) {
            due("kind(" + g + ")", x.kind(g), g < 5 ? g + 1 : 1);
        }
    }

    private static void daysAndUndo() {
        part = "promises 9, 10";
        JawShores x = told(FIVE);
        due("days(0)", x.days(0), BAD);
        due("days(25)", x.days(25), BAD);
        due("days(1)", x.days(1), 1);
        duePerson(x, 0, 1, 1, 2, 1, 12, 0, 0);
        duePerson(x, 1, 2, 1, 0, 0, 0, 1, 0);
        duePerson(x, 2, 3, 1, 0, 0, 23, 0, 0);
        duePerson(x, 3, 1, 1, 2, 0, 8, 0, 0);
        due("days(4)", x.days(4), 1);
        duePerson(x, 0, 3, 1, 0, 0, 17, 0, 0);
        duePerson(x, 1, 2, 1, 3, 1, 5, 1, 0);
        duePerson(x, 2, 1, 1, 3, 1, 28, 0, 0);
        duePerson(x, 3, 3, 1, 4, 1, 13, 0, 0);
        due("count(3)", x.count(3), 5);
        due("undo()", x.undo(), 4);
        duePerson(x, 0, 4, 1, 4, 1, 14, 0, 0);
        duePerson(x, 3, 2, 1, 3, 1, 10, 0, 0);
        due("undo()", x.undo(), 3);
        due("undo()", x.undo(), 2);
        due("undo()", x.undo(), 1);
        due("undo()", x.undo(), 0);
        due("undo()", x.undo(), STATE);
        duePerson(x, 1, 3, 0, 0, 0, 0, 0, 0);
        due("count(3)", x.count(3), 0);
        due("count(5)", x.count(5), 0);
        x.turn(0);
        x.days(24);
        due("count(6)", x.count(6), 24);
        x.round(0);
        due("count(6)", x.count(6), 24);
        for (int left = 23; left >= 0; left--) {
            due("undo()", x.undo(), left);
        }
        due("the oldest is forgotten", x.count(3), 1);
        due("and the turn, too", x.person(0, 3), 1);
        fullDays();
        most();
    }

    private static void fullDays() {
        JawShores x = told(FIVE);
        for (int i = 0; i < 41; i++) {
            x.days(24);
        }
        due("count(3)", x.count(3), 984);
        due("days(16)", x.days(16), FULL);
        due("count(3)", x.count(3), 984);
        due("days(25)", x.days(25), BAD);
        due("days(15) goes", x.days(15) >= 1 ? 1 : 0, 1);
        due("count(3)", x.count(3), 999);
        due("days(1)", x.days(1), FULL);
        due("undo()", x.undo(), 23);
        due("days(1) goes", x.days(1) >= 1 ? 1 : 0, 1);
    }

    private static void most() {
        JawShores x = told("s9,1;o1,0;m1,0;z0,1,95;");
        x.days(1);
        due("99 fish at most", x.person(0, 4), 99);
        JawShores y = told("s9,4;j1,1;j1,1;z0,1,4;");
        due("as much as the toll", y.days(1), 0);
        due("is paid", y.person(0, 4), 0);
        due("then hungry", y.days(1), 1);
        due("two more", y.days(2), 3);
        due("count(5)", y.count(5), 3);
    }

    private static void acts() {
        part = "promises 11 to 16";
        JawShores x = told(FIVE);
        due("cross(-1)", x.cross(-1), BAD);
        due("cross(4)", x.cross(4), BAD);
        due("cross(0) in", x.cross(0), 1);
        due("person(0, 1)", x.person(0, 1), 1);
        due("cross(0) out", x.cross(0), 1);
        due("cross(3) in as out", x.cross(3), 0);
        due("cross(3) out as in", x.cross(3), 4);
        due("cross(3) in as out", x.cross(3), 0);
        due("round(2)", x.round(2), 0);
        due("cross(3) out", x.cross(3), 0);
        due("cross(3) in", x.cross(3), 4);
        due("fall(2)", x.fall(2), 4);
        due("cross(3) out of a fallen one", x.cross(3), 4);
        due("fall(2)", x.fall(2), STATE);
        due("fall(0)", x.fall(0), 5);
        due("setUp(2)", x.setUp(2), 1);
        due("setUp(2)", x.setUp(2), STATE);
        due("gate(0, 2)", x.gate(0, 2), 1);
        due("round(0), a fallen one", x.round(0), 1);
        due("fall(-1)", x.fall(-1), BAD);
        due("fall(5)", x.fall(5), BAD);
        due("setUp(5)", x.setUp(5), BAD);
        due("round(5)", x.round(5), BAD);
        due("round(-1)", x.round(-1), BAD);
        due("turn(0)", x.turn(0), 0);
        due("turn(0)", x.turn(0), 1);
        due("turn(4)", x.turn(4), BAD);
        due("stay(1, 1)", x.stay(1, 1), 2);
        due("stay(3, 1)", x.stay(3, 1), 10);
        due("stay(3, 1)", x.stay(3, 1), STATE);
        due("stay(1, 0)", x.stay(1, 0), 8);
        due("stay(1, 0)", x.stay(1, 0), STATE);
        due("stay(1, 2)", x.stay(1, 2), BAD);
        due("stay(1, -1)", x.stay(1, -1), BAD);
        due("stay(4, 0)", x.stay(4, 0), BAD);
        due("count(6)", x.count(6), 18);
        undoActs(x);
        smoke();
    }

    private static void undoActs(JawShores x) {
        due("undo() a stay", x.undo(), 17);
        due("person(1, 6)", x.person(1, 6), 1);
        x.undo();
        due("person(3, 6)", x.person(3, 6), 0);
        x.undo();
        due("person(1, 6)", x.person(1, 6), 0);
        x.undo();
        due("person(0, 3)", x.person(0, 3), 0);
        x.undo();
        x.undo();
        due("gate(0, 1)", x.gate(0, 1), 0);
        x.undo();
        due("count(4)", x.count(4), 5);
        x.undo();
        due("count(4)", x.count(4), 4);
        x.undo();
        due("person(3, 1)", x.person(3, 1), 1);
        x.undo();
        due("count(4)", x.count(4), 0);
        x.undo();
        due("person(3, 2)", x.person(3, 2), 0);
    }

    private static void smoke() {
        JawShores x = told("s1,1;w1,0;m1,0;w1,0;z0,1,0;");
        due("cross", x.cross(0), 1);
        x.days(1);
        due("in by a smoke hole: nothing", x.person(0, 2), 1);
        due("out by it: nowhere", x.cross(0), 0);
        x.round(1);
        x.turn(0);
        x.days(1);
        due("in by a wide one", x.person(0, 2), 1);
        x.days(1);
        due("in by a smoke hole that faces out: nowhere", x.person(0, 2), 0);
        due("out by it: nothing", x.cross(0), 0);
        x.days(1);
        due("heading on", x.person(0, 0), 2);
        due("of", x.person(0, 2), 4);
        x.days(1);
        due("nowhere again", x.person(0, 2), 0);
    }

    private static void lookups() {
        part = "promises 17, 18";
        JawShores x = told("s3,4;j2,0;w5,1;z0,1,9;z0,0,8;z1,0,7;");
        x.cross(1);
        x.fall(1);
        int[] of0 = {2, 0, 0, 2, 1};
        int[] of1 = {5, 1, 1, 0, 4};
        for (int what = 0; what < 5; what++) {
            due("gate(0, " + what + ")", x.gate(0, what), of0[what]);
            due("gate(1, " + what + ")", x.gate(1, what), of1[what]);
        }
        due("gate(0, 5)", x.gate(0, 5), BAD);
        due("gate(0, -1)", x.gate(0, -1), BAD);
        due("gate(2, 0)", x.gate(2, 0), BAD);
        due("gate(-1, 0)", x.gate(-1, 0), BAD);
        duePerson(x, 1, 0, 1, 1, 0, 8, 0, 0);
        due("person(0, 7)", x.person(0, 7), BAD);
        due("person(0, -1)", x.person(0, -1), BAD);
        due("person(3, 0)", x.person(3, 0), BAD);
        due("person(-1, 0)", x.person(-1, 0), BAD);
        x.stay(0, 1);
        x.stay(1, 1);
        due("person(0, 6)", x.person(0, 6), 1);
        x.days(1);
        duePerson(x, 0, 0, 0, 0, 1, 9, 0, 1);
        duePerson(x, 1, 0, 1, 1, 0, 11, 0, 1);
        duePerson(x, 2, 0, 1, 1, 0, 10, 0, 0);
    }

    private static void aheadWhenFirst() {
        part = "promises 19, 20, 21";
        JawShores x = told(FIVE);
        int[] now = {3, 0, 0, 0, 0};
        int[] five = {2, 1, 3, 5, 1};
        for (int what = 0; what < 5; what++) {
            due("ahead(1, 0, " + what + ")", x.ahead(1, 0, what), now[what]);
            due("ahead(1, 5, " + what + ")", x.ahead(1, 5, what), five[what]);
        }
        due("ahead(1, 61, 0)", x.ahead(1, 61, 0), BAD);
        due("ahead(1, -1, 0)", x.ahead(1, -1, 0), BAD);
        due("ahead(1, 0, 5)", x.ahead(1, 0, 5), BAD);
        due("ahead(1, 0, -1)", x.ahead(1, 0, -1), BAD);
        due("ahead(4, 0, 0)", x.ahead(4, 0, 0), BAD);
        due("ahead(0, 60, 1)", x.ahead(0, 60, 1), 1);
        due("when(1, 1)", x.when(1, 1), 2);
        due("when(1, 2)", x.when(1, 2), 2);
        due("when(0, 2)", x.when(0, 2), 3);
        due("when(0, 3)", x.when(0, 3), NONE);
        x.cross(0);
        due("when(0, 0)", x.when(0, 0), 0);
        due("when(4, 0)", x.when(4, 0), BAD);
        due("when(0, 5)", x.when(0, 5), BAD);
        due("when(0, -1)", x.when(0, -1), BAD);
        due("first(0)", x.first(0), 1);
        due("first(1)", x.first(1), 1);
        due("first(2)", x.first(2), BAD);
        due("first(-1)", x.first(-1), BAD);
        due("nothing changed", x.count(3), 0);
        farAhead();
    }

    private static void farAhead() {
        // a toll of 1 out of 59, 60 or 98 fish: hungry first on day 60, 61, 99
        JawShores x = told("s1,1;j1,1;j1,1;z0,1,98;z0,1,59;z0,1,59;");
        due("first(0)", x.first(0), 1);
        due("first(1)", x.first(1), 60);
        JawShores y = told("s1,1;j1,1;j1,1;z0,1,98;z0,1,60;");
        due("first(0)", y.first(0), NONE);
        due("first(1)", y.first(1), NONE);
        y.days(24);
        due("first(1)", y.first(1), 37);
        due("ahead(1, 60, 4)", y.ahead(1, 60, 4), 24);
        y.days(24);
        y.days(14);
        due("count(5)", y.count(5), 2);
        due("first(1), hungry already", y.first(1), 1);
        due("ahead(1, 2, 4)", y.ahead(1, 2, 4), 4);
    }

    private static void leastAndWays() {
        part = "promises 22, 23";
        JawShores x = told(FIVE);
        int[][] rows = {{0, 0, NONE}, {1, 1, 0}, {2, 3, 1}, {3, 5, 0}, {4, 9, 1}, {6, 15, 1}, {5, NONE, NONE}, {7, NONE, NONE}, {8, NONE, NONE}};
        for (int[] row : rows) {
            due("least(0, " + row[0] + ", 0)", x.least(0, row[0], 0), row[1]);
            due("least(0, " + row[0] + ", 1)", x.least(0, row[0], 1), row[2]);
        }
        due("least(0, 32, 0)", x.least(0, 32, 0), BAD);
        due("least(0, -1, 0)", x.least(0, -1, 0), BAD);
        due("least(4, 0, 0)", x.least(4, 0, 0), BAD);
        due("least(0, 0, 2)", x.least(0, 0, 2), BAD);
        x.cross(0);
        due("least of one inside", x.least(0, 2 | 1, 0), 4);
        due("first move of one inside", x.least(0, 2 | 1, 1), 0);
        // to the one that tells and faces out: in, out (of it alone), in (of it no more)
        due("least, to lose all", x.least(0, 0, 0), 1 + 2 + 5 + 3);
        x.undo();
        x.fall(0);
        due("least by a fallen one", x.least(0, 1, 0), NONE);
        x.undo();
        due("least from 3 down to 2", x.least(1, 4, 0), 1 + 2);
        due("first move", x.least(1, 4, 1), 2);
        JawShores y = told("s1,1;w1,0;o1,0;w1,0;z1,0,0;");
        due("least, two rows", y.least(0, 5, 0), 6);
        due("the least first move", y.least(0, 5, 1), 1);
        int[][] ways = {{0, 0, 1}, {1, 0, 0}, {1, 1, 1}, {1, 2, 1}, {2, 2, 1}, {1, 3, 3}, {0, 1, 1}};
        for (int[] way : ways) {
            due("ways(0, " + way[0] + ", " + way[1] + ")", x.ways(0, way[0], way[1]), way[2]);
        }
        due("ways(0, 0, 9)", x.ways(0, 0, 9), BAD);
        due("ways(0, 0, -1)", x.ways(0, 0, -1), BAD);
        due("ways(0, 32, 0)", x.ways(0, 32, 0), BAD);
        due("ways(4, 0, 0)", x.ways(4, 0, 0), BAD);
        JawShores z = told("s1,1;o1,0;m1,1;z0,0,0;");
        due("ways(0, 0, 8)", z.ways(0, 0, 8), 55);
    }

    private static void roundsAndFalls() {
        part = "promises 24, 25";
        JawShores x = told(FIVE);
        due("rounds(1, 2, 1, 0)", x.rounds(1, 2, 1, 0), 1);
        due("rounds(1, 2, 1, 1)", x.rounds(1, 2, 1, 1), 4);
        due("rounds(1, 2, 2, 0)", x.rounds(1, 2, 2, 0), 0);
        due("rounds(1, 2, 2, 1)", x.rounds(1, 2, 2, 1), 0);
        due("rounds(2, 3, 9, 0)", x.rounds(2, 3, 9, 0), NONE);
        due("rounds(2, 3, 9, 1)", x.rounds(2, 3, 9, 1), NONE);
        int[][] bad = {{4, 0, 1, 0}, {0, 5, 1, 0}, {0, 0, 0, 0}, {0, 0, 31, 0}, {0, 0, 1, 2}, {0, 0, 1, -1}, {-1, 0, 1, 0}};
        for (int[] b : bad) {
            due("rounds, wrong", x.rounds(b[0], b[1], b[2], b[3]), BAD);
        }
        due("falls(1, 0)", x.falls(1, 0), 1);
        due("falls(1, 1)", x.falls(1, 1), 4);
        due("falls(0, 0)", x.falls(0, 0), BAD);
        due("falls(31, 0)", x.falls(31, 0), BAD);
        due("falls(30, 1) is some", x.falls(30, 1) > 0 ? 1 : 0, 1);
        due("rounds(2, 3, 30, 0)", x.rounds(2, 3, 30, 0), NONE);
        due("falls(1, 2)", x.falls(1, 2), BAD);
        x.days(1);
        due("falls(4, 0) behind a hungry day", x.falls(4, 0), 0);
        due("falls(4, 1)", x.falls(4, 1), 0);
        JawShores y = told("s1,9;j1,1;j1,1;j1,1;z0,1,0;");
        due("falls(2, 1)", y.falls(2, 1), 6);
        due("falls(3, 0)", y.falls(3, 0), 2);
        due("falls(4, 0)", y.falls(4, 0), 3);
        due("falls(4, 1)", y.falls(4, 1), 7);
        JawShores z = told("s1,30;j1,1;j1,1;j1,1;j1,1;j1,1;j1,1;z0,1,0;");
        due("falls(11, 1), all", z.falls(11, 1), 63);
        due("falls(9, 0), not the first", z.falls(9, 0), 5);
        due("falls(9, 1)", z.falls(9, 1), 62);
        y.fall(1);
        due("falls(4, 1) with a fallen one", y.falls(4, 1), 5);
        due("falls(4, 0) with a fallen one", y.falls(4, 0), 2);
        twoDo();
    }

    /** Either of two gates turned round will do: the lesser one is told. */
    private static void twoDo() {
        // day 1 in by 1, day 2 out by 1 and in by 2: of 2 by gate 2 turned in; kept of 1 by a wide 1
        JawShores x = told("s1,1;w1,1;j1,0;w1,0;z0,1,0;");
        due("rounds(0, 1, 2, 0)", x.rounds(0, 1, 2, 0), 0);
        JawShores y = told("s1,1;w1,1;w1,1;w1,1;z0,1,0;");
        // out of a wide one that faces out one is of it, so gate 1 is of by day 2 anyhow; gate 2 needs a turn
        due("rounds(0, 2, 2, 1)", y.rounds(0, 2, 2, 1), 4);
        JawShores z = told("s1,1;w1,0;j1,1;j1,1;z0,1,0;");
        // 0 is lost by going out of 1 (as in): kept if 1 is turned in too, no: a jaw takes all either way
        z.cross(0);
        due("rounds(0, 0, 2, 0)", z.rounds(0, 0, 2, 0), NONE);
        due("rounds(0, 0, 1, 0)", z.rounds(0, 0, 1, 0), 0);
        due("rounds(0, 1, 2, 1)", z.rounds(0, 1, 2, 1), 0);
    }

    private static void fellowsHomesShare() {
        part = "promises 26, 27, 28";
        JawShores x = told(FIVE);
        due("fellows(0)", x.fellows(0), 14);
        due("share, of none", x.share(0, 999), 0);
        x.days(3);
        int[] ten = {2, 2, 3, 3};
        int[] most = {167, 166, 333, 333};
        for (int p = 0; p < 4; p++) {
            due("share(" + p + ", 10)", x.share(p, 10), ten[p]);
            due("share(" + p + ", 999)", x.share(p, 999), most[p]);
            due("share(" + p + ", 0)", x.share(p, 0), 0);
            due("fellows(" + p + ")", x.fellows(p), 0);
        }
        due("share(0, 1000)", x.share(0, 1000), BAD);
        due("share(0, -1)", x.share(0, -1), BAD);
        due("share(4, 1)", x.share(4, 1), BAD);
        x.days(1);
        due("fellows(1)", x.fellows(1), 8);
        due("fellows(3)", x.fellows(3), 2);
        due("fellows(4)", x.fellows(4), BAD);
        due("fellows(-1)", x.fellows(-1), BAD);
        int[] homes = {14, 10, 1, 0, 0, BAD};
        for (int g = 0; g < 6; g++) {
            due("homes(" + g + ")", x.homes(g), homes[g]);
        }
        due("homes(-1)", x.homes(-1), BAD);
        JawShores y = told("s1,1;j1,0;j1,0;z0,1,0;z0,1,0;z0,1,0;");
        y.cross(1);
        y.cross(2);
        due("share of one of nowhere", y.share(0, 3), 0);
        due("share, what is over", y.share(1, 3), 2);
        due("share, the rest", y.share(2, 3), 1);
    }

    private static void dueWhat(JawShores x, int gate, int kinds, int facings, int n) {
        due("what(" + gate + ", 0, ..)", x.what(gate, 0, 0, 0, 0, n), kinds);
        due("what(" + gate + ", 1, ..)", x.what(gate, 1, 0, 0, 0, n), facings);
    }

    private static void dueWho(JawShores x, int headings, int fishes, int fell, int n) {
        due("who(0, 0, ..)", x.who(0, 0, 0, 0, n), headings);
        due("who(0, 1, ..)", x.who(0, 1, 0, 0, n), fishes);
        due("who(0, 2, ..)", x.who(0, 2, 0, 0, n), fell);
    }

    private static void whatAndWho() {
        part = "promises 29, 30";
        JawShores x = withDinners(told(OUTWARD), 1);
        dueWhat(x, 1, 48, 1, 1);
        dueWhat(x, 0, 0, 0, 1);
        dueWho(x, 0, 2147483136, 2, 1);
        x.set(0, 0, 0);
        dueWhat(x, 1, 14, 2, 1);
        dueWhat(x, 0, 62, 3, 1);
        dueWho(x, 3, 511, 65, 1);
        x.set(0, 0, 2);
        dueWhat(x, 0, 0, 0, 1);
        dueWho(x, 0, 0, 0, 1);
        x.set(0, 0, 0);
        x.stay(0, 1);
        dueWhat(x, 1, 62, 3, 1);
        dueWho(x, 3, 2147483647, 67, 1);
        x.undo();
        x.fall(1);
        due("fell, of a fallen one", x.who(0, 2, 0, 0, 1), 0);
        x.set(0, 0, 1);
        due("fell, so as it is", x.who(0, 2, 0, 0, 1), 65);
        due("kinds of a fallen one", x.what(1, 0, 0, 0, 0, 1), 62);
        wrongWhats();
        wrongWhos();
        due("headings", withDinners(told("s1,9;o1,0;o1,0;j1,1;z1,1,0;"), 1).who(0, 0, 0, 0, 1), 1);
    }

    private static void wrongWhats() {
        JawShores x = withDinners(told(OUTWARD), new int[13]);
        due("what, n 12", x.what(0, 0, 0, 0, 1, 12) == BAD ? 1 : 0, 0);
        int[][] bad = {{2, 0, 0, 0, 0, 1}, {-1, 0, 0, 0, 0, 1}, {0, 2, 0, 0, 0, 1}, {0, -1, 0, 0, 0, 1}, {0, 0, 1, 0, 0, 1},
            {0, 0, 0, 8, 0, 1}, {0, 0, 0, -1, 0, 1}, {0, 0, 0, 0, 0, 13}, {0, 0, 0, 0, 0, 0}, {0, 0, 0, 1, -1, 13}};
        for (int[] b : bad) {
            due("what, wrong", x.what(b[0], b[1], b[2], b[3], b[4], b[5]), BAD);
        }
        due("what, missing", x.what(0, 0, 0, 1, -1, 1), NULL);
        due("what, place", x.what(0, 0, 0, 0, -1, 1), PLACE);
        due("what, place", x.what(0, 0, 0, 0, 2, 12), PLACE);
        due("what, place", x.what(0, 0, 0, 0, MOST_INT, 12), PLACE);
    }

    private static void wrongWhos() {
        JawShores x = withDinners(told(OUTWARD), new int[13]);
        due("who, n 12", x.who(0, 0, 0, 1, 12) == BAD ? 1 : 0, 0);
        int[][] bad = {{1, 0, 0, 0, 1}, {-1, 0, 0, 0, 1}, {0, 3, 0, 0, 1}, {0, -1, 0, 0, 1}, {0, 0, 8, 0, 1}, {0, 0, 0, 0, 13}, {0, 0, 1, -1, 0}};
        for (int[] b : bad) {
            due("who, wrong", x.who(b[0], b[1], b[2], b[3], b[4]), BAD);
        }
        due("who, missing", x.who(0, 0, 1, -1, 1), NULL);
        due("who, place", x.who(0, 2, 0, 13, 1), PLACE);
        due("who, place", x.who(0, 2, 0, LEAST_INT, 1), PLACE);
    }

    private static void dueFed(JawShores x, int person, int n, int p, long above, long below) {
        due("fed(" + person + ", " + n + ", " + p + ", 0)", x.fed(person, n, p, 0), above);
        due("fed(" + person + ", " + n + ", " + p + ", 1)", x.fed(person, n, p, 1), below);
    }

    private static void fedAndDrawn() {
        part = "promises 31, 32";
        JawShores x = told(FIVE);
        dueFed(x, 1, 1, 4, 2, 5);
        dueFed(x, 1, 1, 7, 7, 10);
        dueFed(x, 1, 1, 0, 0, 1);
        dueFed(x, 1, 1, 10, 1, 1);
        dueFed(x, 1, 0, 0, 1, 1);
        dueFed(x, 0, 1, 3, 1, 1);
        int[][] bad = {{4, 0, 0, 0}, {0, -1, 0, 0}, {0, 31, 0, 0}, {0, 0, 11, 0}, {0, 0, -1, 0}, {0, 0, 0, 2}, {0, 0, 0, -1}};
        for (int[] b : bad) {
            due("fed, wrong", x.fed(b[0], b[1], b[2], b[3]), BAD);
        }
        x.fall(2);
        dueFed(x, 1, 1, 0, 1, 1);
        JawShores y = told("s1,9;j1,1;j1,1;j1,1;z0,1,0;");
        dueFed(y, 0, 3, 3, 9, 100);
        dueFed(y, 0, 4, 3, 27, 1000);
        dueFed(told("s1,30;j1,1;j1,1;j1,1;j1,1;j1,1;j1,1;z0,1,0;"), 0, 30, 9, 531441, 1000000);
        y.days(1);
        dueFed(y, 0, 1, 5, 1, 2);
        draws();
    }

    private static void draws() {
        JawShores x = told(FIVE);
        due("drawn(0, 1, 0)", x.drawn(0, 1, 0), 0);
        due("drawn(0, 1, 1)", x.drawn(0, 1, 1), 34);
        due("drawn(1, 1, 0)", x.drawn(1, 1, 0), 1);
        due("drawn(1, 1, 1)", x.drawn(1, 1, 1), 43);
        due("drawn(1, 3, 0), turned round", x.drawn(1, 3, 0), 1);
        due("drawn(1, 3, 1), turned round", x.drawn(1, 3, 1), 29);
        due("drawn(0, 999999, 1)", x.drawn(0, 999999, 1), 34);
        due("drawn(60, 1, 0) goes", x.drawn(60, 1, 0) >= 1 ? 1 : 0, 1);
        x.days(1);
        due("drawn(0, 1, 0), in them alone", x.drawn(0, 1, 0), 0);
        int[][] bad = {{-1, 1, 0}, {61, 1, 0}, {0, 0, 0}, {0, 1000000, 0}, {0, 1, 2}, {0, 1, -1}};
        for (int[] b : bad) {
            due("drawn, wrong", x.drawn(b[0], b[1], b[2]), BAD);
        }
        due("nothing changed", x.count(3), 1);
        due("nothing turned", x.gate(1, 1), 0);
        JawShores y = told("s1,9;j1,1;j1,1;j1,1;z1,0,0;z0,1,0;");
        due("drawn(1, 10, 0), one falls", y.drawn(1, 10, 0), 1);
        due("drawn(1, 10, 1)", y.drawn(1, 10, 1), 1);
        y.fall(1);
        due("drawn(1, 10, 0), it is set up", y.drawn(1, 10, 0), 2);
        due("drawn(1, 1, 0), it is not", y.drawn(1, 1, 0), 1);
    }

    private static void images() {
        part = "promises 33, 34";
        JawShores x = told(FIVE);
        due("image(2)", x.image(2), BAD);
        due("image(-1)", x.image(-1), BAD);
        x.days(2);
        x.fall(3);
        x.stay(2, 1);
        due("image(1)", x.image(1), 1);
        due("acts stay", x.count(6), 4);
        due("restore(0)", x.restore(0), STATE);
        due("restore(2)", x.restore(2), BAD);
        due("restore(-1)", x.restore(-1), BAD);
        x.setUp(3);
        x.round(0);
        x.turn(1);
        x.days(5);
        feedAll(x, "s1,1;o1,0;m1,1;z0,0,0;");
        x.shore();
        x.feed('s');
        due("image(0)", x.image(0), 1);
        due("restore(1)", x.restore(1), 1);
        due("count(1)", x.count(1), 5);
        due("count(2)", x.count(2), 4);
        due("count(3)", x.count(3), 2);
        due("count(4)", x.count(4), 8);
        due("count(5)", x.count(5), 1);
        due("count(6)", x.count(6), 0);
        due("count(7)", x.count(7), 1);
        due("undo()", x.undo(), STATE);
        duePerson(x, 1, 1, 1, 6, 0, 3, 1, 0);
        due("person(2, 6)", x.person(2, 6), 1);
        due("gate(0, 1)", x.gate(0, 1), 0);
        due("kind(2)", x.kind(2), 3);
        due("days(1)", x.days(1), 1);
        due("restore(0)", x.restore(0), 1);
        due("undo() behind it", x.undo(), STATE);
        due("count(1)", x.count(1), 2);
        due("days(1)", x.days(1), 0);
        due("person(0, 4), by its law", x.person(0, 4), 1);
        due("restore(1) again", x.restore(1), 1);
        due("count(3)", x.count(3), 2);
    }

    private static void kindsAndAsks() {
        part = "promises 35 to 38";
        JawShores x = told(FIVE);
        int[][] is = {{1, 1, 0, 0, 0, 0}, {1, 1, 1, 0, 0, 0}, {1, 1, 0, 1, 0, 0}, {1, 0, 0, 0, 1, 0}, {1, 0, 0, 0, 1, 1}};
        for (int g = 0; g < 5; g++) {
            due("kind(" + g + ")", x.kind(g), g + 1);
            for (int k = 0; k < 6; k++) {
                due("as(" + g + ", " + k + ")", x.as(g, k), is[g][k] == 1 ? g : KIND);
                due("status()", x.status(), is[g][k] == 1 ? 0 : 3);
            }
        }
        due("kind(5)", x.kind(5), BAD);
        due("kind(-1)", x.kind(-1), BAD);
        due("as(0, 6)", x.as(0, 6), BAD);
        due("as(0, -1)", x.as(0, -1), BAD);
        due("as(5, 0)", x.as(5, 0), BAD);
        due("ask(0, 0), of it nobody", x.ask(0, 0), 2);
        x.days(3);
        due("ask(0, 0)", x.ask(0, 0), 4);
        dueTrace(x, 11, 10, 21, 20);
        due("ask(0, 1)", x.ask(0, 1), 2);
        dueTrace(x, 21, 20);
        due("ask(1, 0)", x.ask(1, 0), -11);
        dueTrace(x, 12, 11, 10, 24, 21, 20);
        due("ask(1, 1)", x.ask(1, 1), 6);
        dueTrace(x, 24, 21, 20);
        due("ask(2, 0)", x.ask(2, 0), -995);
        dueTrace(x, 11, 10, 22, 21, 20);
        due("ask(2, 1)", x.ask(2, 1), -996);
        dueTrace(x, 22, 21, 20);
        due("ask(3, 0)", x.ask(3, 0), -97);
        dueTrace(x, 13, 10);
        due("ask(3, 1)", x.ask(3, 1), 100);
        dueTrace(x, 23, 20, 13, 10);
        due("ask(4, 0)", x.ask(4, 0), -192);
        dueTrace(x, 14, 13, 10);
        due("ask(4, 1)", x.ask(4, 1), 196);
        dueTrace(x, 23, 20, 14, 13, 10);
        due("ask(5, 0)", x.ask(5, 0), BAD);
        due("ask(-1, 0)", x.ask(-1, 0), BAD);
        due("ask(0, 2)", x.ask(0, 2), BAD);
        due("ask(0, -1)", x.ask(0, -1), BAD);
        dueTrace(x, 23, 20, 14, 13, 10);
        due("trace(-1)", x.trace(-1), NONE);
        due("trace(most)", x.trace(MOST_INT), NONE);
    }

    private static void statusOfCalls() {
        part = "promises 39, 40";
        JawShores x = told(FIVE);
        x.set(0, 0, 0);
        due("status() of NULL", x.status(), 1);
        x.row(9, 0, 0);
        x.set(9, 0, 0);
        x.copy(9, 0, 0, 0, 0);
        x.drop(9);
        x.what(9, 0, 0, 0, 0, 1);
        x.who(0, 9, 0, 0, 1);
        x.as(9, 0);
        due("status() behind BAD", x.status(), 1);
        x.days(1);
        x.ask(0, 0);
        x.undo();
        due("status() behind others", x.status(), 1);
        x.row(0, 0, 2);
        due("status() of none", x.status(), 0);
        x.set(0, 2, 0);
        due("status() of PLACE", x.status(), 2);
        x.set(0, 1, 0);
        due("status() of none", x.status(), 0);
        x.as(0, 2);
        due("status() of KIND", x.status(), 3);
        x.as(0, 1);
        due("status() of none", x.status(), 0);
        x.row(1, 1, -5);
        due("status() of SIZE", x.status(), 4);
        x.what(0, 0, 0, 0, 0, 1);
        due("status() of none", x.status(), 0);
        x.row(1, 1, 2);
        x.copy(0, 0, 1, 0, 1);
        due("status() of STORE", x.status(), 5);
        x.who(0, 0, 0, 0, 1);
        due("status() of none", x.status(), 0);
        x.what(0, 0, 0, 5, 0, 1);
        due("status() of NULL", x.status(), 1);
        x.copy(0, 0, 0, 1, 1);
        due("status() of none", x.status(), 0);
        x.who(0, 0, 0, 2, 1);
        due("status() of PLACE", x.status(), 2);
        x.drop(0);
        due("status() of none", x.status(), 0);
        x.drop(0);
        due("status() of NULL", x.status(), 1);
    }
}
