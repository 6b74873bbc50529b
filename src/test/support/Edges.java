import java.io.IOException;
import java.lang.reflect.Method;
import java.lang.reflect.Modifier;
import java.nio.file.Files;
import java.nio.file.Path;
import java.util.ArrayList;
import java.util.HashMap;
import java.util.List;
import java.util.Map;

/** Calls told as texts with the answers that are due, each under the sentence of the document that asks for it. */
final class Edges {
    static final String FIVE = "s3,4;j2,0;w5,0;t1,1;o3,0;m4,0;z0,1,9;z3,0,0;z4,1,20;z2,0,5;";
    private static final int PROMISED_CALLS = 512;
    private static final Map<String, Long> NAMES = Map.ofEntries(Map.entry("NONE", -1000000L), Map.entry("BAD", -1000001L),
        Map.entry("STATE", -1000002L), Map.entry("FULL", -1000003L), Map.entry("NULL", -1000011L), Map.entry("PLACE", -1000012L),
        Map.entry("KIND", -1000013L), Map.entry("SIZE", -1000014L), Map.entry("STORE", -1000015L),
        Map.entry("MIN", (long) Integer.MIN_VALUE), Map.entry("MAX", (long) Integer.MAX_VALUE));
    static final Map<String, Method> FACE = new HashMap<>();

    static {
        for (Method m : JawShores.class.getDeclaredMethods()) {
            if (Modifier.isPublic(m.getModifiers())) FACE.put(m.getName(), m);
        }
    }

    /** An object in use; nothing is promised of it behind its 512th call, so calls are counted. */
    static final class Used {
        final JawShores it = new JawShores();
        int calls;
    }

    private final Map<String, String> document = Document.sections();
    private final Map<String, boolean[]> quoted = new HashMap<>();
    private String sentence = "";
    private int wrong;

    /** Names the sentence that the next rows test; it must stand so in the document. */
    void says(String section, String words) {
        sentence = section + ", \"" + words + "\"";
        String text = document.get(section);
        if (document.isEmpty()) return;
        int at = text == null ? -1 : text.indexOf(words);
        if (at < 0) {
            complain("the document does not say so");
            return;
        }
        boolean[] marks = quoted.computeIfAbsent(section, s -> new boolean[text.length()]);
        for (int i = at; i < at + words.length(); i++) marks[i] = true;
    }

    /** Names what the next rows test, where it is no sentence of the document. */
    void about(String what) {
        sentence = what;
    }

    /** Every word of these sections was named by says. */
    void covers(String... sections) {
        for (String section : sections) {
            sentence = section;
            String text = document.getOrDefault(section, "");
            boolean[] marks = quoted.getOrDefault(section, new boolean[text.length()]);
            StringBuilder left = new StringBuilder();
            for (int i = 0; i < text.length(); i++) if (!marks[i]) left.append(text.charAt(i));
            if (!left.toString().isBlank()) complain("no test names: " + left.toString().trim());
        }
    }

    void end() {
        System.out.println(wrong == 0 ? "all is as due" : wrong + " are not as due");
        if (wrong != 0) System.exit(1);
    }

    void complain(String what) {
        wrong++;
        System.out.println(sentence + ": " + what);
    }

    Used fresh(String... calls) {
        Used x = new Used();
        for (String call : calls) answer(x, call);
        return x;
    }

    Used told(String text, String... calls) {
        Used x = new Used();
        tell(x, text);
        for (String call : calls) answer(x, call);
        return x;
    }

    void feed(Used x, String text) {
        for (int i = 0; i < text.length(); i++) answer(x, "feed(" + (int) text.charAt(i) + ")");
    }

    long tell(Used x, String text) {
        feed(x, text);
        return answer(x, "shore()");
    }

    /** Rows of the form "call answer". */
    void due(Used x, String... rows) {
        for (String row : rows) dueRow(x, row);
    }

    private long dueRow(Used x, String row) {
        int end = row.lastIndexOf(')') + 1;
        long want = number(row.substring(end).trim());
        long got = answer(x, row.substring(0, end));
        if (got != want) complain(row.substring(0, end) + " answered " + got + ", due is " + want);
        return got;
    }

    void dueFault(String text, int place, int fault) {
        Used x = new Used();
        long got = tell(x, text);
        if (got != -1000100 - place) complain(text + " answered " + got + ", due is the place " + place);
        long number = answer(x, "fault()");
        if (number != fault) complain(text + " has the fault " + number + ", due is " + fault);
    }

    void dueRead(String text, int gates, String... rows) {
        Used x = new Used();
        long got = tell(x, text);
        if (got != gates) complain(text + " answered " + got + ", due is " + gates);
        due(x, rows);
    }

    long answer(Used x, String call) {
        if (++x.calls > PROMISED_CALLS) complain("a call more than is promised: " + call);
        int open = call.indexOf('(');
        Method m = FACE.get(call.substring(0, open));
        String inner = call.substring(open + 1, call.length() - 1).trim();
        String[] told = inner.isEmpty() ? new String[0] : inner.split(",");
        Object[] numbers = new Object[told.length];
        for (int i = 0; i < told.length; i++) numbers[i] = (int) number(told[i].trim());
        try {
            return ((Number) m.invoke(x.it, numbers)).longValue();
        } catch (ReflectiveOperationException thrown) {
            complain(call + " threw " + thrown.getCause());
            return 0;
        }
    }

    static long number(String told) {
        return NAMES.containsKey(told) ? NAMES.get(told) : Long.parseLong(told);
    }

    /** Refused, or found, on a shore where much has been done: nothing but status() tells that the call was made. */
    void refused(String... rows) {
        for (String row : rows) dueRefusal(row, lived(), lived());
    }

    /** The same where no shore was ever told. */
    void refusedBare(String... rows) {
        for (String row : rows) dueRefusal(row, bare(), bare());
    }

    private void dueRefusal(String row, Used made, Used other) {
        long got = dueRow(made, row);
        boolean isFinding = got <= number("NULL") && got >= number("STORE");
        due(made, "status() " + (isFinding ? -1000010 - got : answer(other, "status()")));
        same(row, made, other);
    }

    /** Calls, without answers, that are answered alike twice and change nothing; status() only where a row is read. */
    void foretold(String... calls) {
        for (String call : calls) {
            Used made = lived();
            long got = answer(made, call);
            if (got < number("NONE")) complain(call + " was refused");
            if (answer(made, call) != got) complain(call + " answers another time otherwise");
            boolean readsRow = call.startsWith("what") || call.startsWith("who");
            due(made, "status() " + (readsRow ? 0 : 3));
            same(call, made, lived());
        }
    }

    /** A shore on which much has been done: status() is 3, fault() 2, eight acts can be undone, image 1 is kept. */
    Used lived() {
        Used x = fresh("feed(115)", "feed(48)", "shore()");
        tell(x, FIVE);
        String[] calls = {"stay(3, 1)", "days(1)", "image(1)", "stay(2, 1)", "days(1)", "fall(1)", "cross(0)", "turn(1)", "round(0)",
            "row(0, 0, 3)", "set(0, 0, 1)", "set(0, 2, -1)", "row(1, 1, 2)", "set(1, 1, 1)", "row(2, 2, 40)", "set(2, 39, 1)",
            "row(3, 2, 0)", "ask(1, 0)", "feed(115)", "feed(57)", "as(0, 2)"};
        for (String call : calls) answer(x, call);
        return x;
    }

    private Used bare() {
        return fresh("row(0, 0, 3)", "set(0, 0, 1)", "row(1, 1, 2)", "feed(115)", "feed(57)", "set(0, 3, 0)");
    }

    void same(String why, Used made, Used other) {
        List<String> seen = look(made);
        List<String> due = look(other);
        for (int i = 0; i < due.size(); i++) {
            String is = i < seen.size() ? seen.get(i) : "nothing";
            if (!is.equals(due.get(i))) {
                complain("behind " + why + ": " + is + ", without it " + due.get(i));
                return;
            }
        }
    }

    /** All that calls can tell of an object; it is used up by it. */
    private List<String> look(Used x) {
        List<String> seen = new ArrayList<>();
        see(x, seen, "fault()");
        for (int what = 0; what < 8; what++) see(x, seen, "count(" + what + ")");
        for (int g = 0; g < 5; g++) {
            see(x, seen, "kind(" + g + ")");
            for (int what = 0; what < 5; what++) see(x, seen, "gate(" + g + ", " + what + ")");
        }
        for (int p = 0; p < 4; p++) {
            for (int what = 0; what < 7; what++) see(x, seen, "person(" + p + ", " + what + ")");
        }
        for (int i = 0; i < 7; i++) see(x, seen, "trace(" + i + ")");
        lookAtRows(x, seen);
        see(x, seen, "days(1)");
        for (int p = 0; p < 4; p++) see(x, seen, "person(" + p + ", 4)");
        see(x, seen, "undo()");
        for (long left = see(x, seen, "undo()"); left >= 0; left = see(x, seen, "undo()")) lookShort(x, seen);
        for (int k = 0; k < 2; k++) {
            see(x, seen, "restore(" + k + ")");
            see(x, seen, "count(6)");
            lookShort(x, seen);
        }
        feed(x, ",1;j1,0;w1,0;z0,1,7;");
        for (String call : new String[] {"shore()", "count(1)", "days(1)", "person(0, 4)"}) see(x, seen, call);
        return seen;
    }

    /** One stays outside and never eats, one stays in an open place and always does: so items are seen as 0, 1, or neither. */
    private void lookAtRows(Used x, List<String> seen) {
        for (int r = 0; r < 2; r++) {
            for (int i = 0; i < 3 - r; i++) {
                see(x, seen, "who(3, 2, " + r + ", " + i + ", 1)");
                see(x, seen, "who(2, 2, " + r + ", " + i + ", 1)");
            }
        }
        for (int i = 0; i < 36; i += 12) see(x, seen, "who(3, 2, 2, " + i + ", 12)");
        see(x, seen, "who(3, 2, 2, 36, 3)");
        see(x, seen, "who(2, 2, 2, 39, 1)");
        see(x, seen, "copy(3, 0, 2, 0, 0)");
        for (int r = 0; r < 4; r++) see(x, seen, "set(" + r + ", 0, 40000)");
        for (int r = 0; r < 8; r++) see(x, seen, "drop(" + r + ")");
    }

    private void lookShort(Used x, List<String> seen) {
        String[] calls = {"count(3)", "count(4)", "count(5)", "gate(0, 1)", "person(1, 3)", "person(3, 6)", "person(2, 2)", "person(0, 4)", "person(0, 1)"};
        for (String call : calls) see(x, seen, call);
    }

    private long see(Used x, List<String> seen, String call) {
        long got = answer(x, call);
        seen.add(call + " = " + got);
        return got;
    }

    /** The document cut into what its promises say, and its terms line by line. */
    private static final class Document {
        static Map<String, String> sections() {
            Map<String, String> sections = new HashMap<>();
            Path path = Path.of("../shared/DOC.md");
            if (!Files.exists(path)) {
                System.out.println("no document at " + path + ": sentences are not looked up");
                return sections;
            }
            try {
                String[] parts = Files.readString(path).split("(?m)^## ");
                for (String part : parts) {
                    if (part.startsWith("Terms")) cutTerms(part, sections);
                    if (part.startsWith("Promise")) cutPromise(part, sections);
                }
            } catch (IOException unread) {
                System.out.println("the document cannot be read: " + unread);
            }
            return sections;
        }

        private static void cutTerms(String part, Map<String, String> sections) {
            String number = "0";
            int line = 0;
            for (String told : part.split("\n")) {
                String text = told.trim();
                if (text.isEmpty() || text.startsWith("```") || text.startsWith("Ahead of the calls") || text.equals("Terms")) continue;
                if (text.startsWith("======== ")) {
                    number = text.substring(9, 10);
                    text = text.substring(11);
                    line = 0;
                }
                sections.put("Terms " + number + "." + line, text);
                line++;
            }
        }

        private static void cutPromise(String part, Map<String, String> sections) {
            String name = part.substring(0, part.indexOf(':'));
            int signatureEnd = part.indexOf("`:");
            sections.put(name, part.substring(signatureEnd + 2).trim());
        }
    }
}
