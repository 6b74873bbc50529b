import java.lang.reflect.Method;
import java.nio.file.Files;
import java.nio.file.Path;
import java.util.ArrayList;
import java.util.List;
import java.util.Map;
import java.util.Random;
import java.util.Set;
import java.util.TreeMap;
import java.util.TreeSet;
import java.util.regex.Matcher;
import java.util.regex.Pattern;

/** README.md: what it shows of calls and answers is what the class answers, and it tells of every call and every test. */
public final class ReadmeTest {
    private static final String MADE = "JawShores x = new JawShores();";
    private static final Pattern FED = Pattern.compile("for \\(char c : \"([^\"]*)\"\\.toCharArray\\(\\)\\) x\\.feed\\(c\\);");
    private static final Pattern SHOWN = Pattern.compile("x\\.(\\w+)\\(([^)]*)\\); *// (-?\\d+|NONE|BAD|STATE|FULL)(: .+)?");
    private static final Pattern TOLD = Pattern.compile("\\| `(\\w+)\\(([^)]*)\\)` \\| (.+?) \\| ?(.*?) ?\\|");
    private static final Pattern NUMBERED = Pattern.compile("\\| (-\\d+) \\| `?(\\w+)`? \\| .+ \\|");
    private static final Pattern REFUSAL = Pattern.compile("\\b(BAD|STATE|FULL|NONE|NULL|PLACE|KIND|SIZE|STORE|a fault)\\b");
    private static final String[] REFUSALS = {"NONE", "BAD", "STATE", "FULL", "NULL", "PLACE", "KIND", "SIZE", "STORE"};
    private static final int[] TRIED = {-1, 0, 1, 2, 3, 4, 5, 7, 8, 10, 12, 13, 24, 30, 40, 41, 61, 64, 256, 1000, Integer.MAX_VALUE, Integer.MIN_VALUE};
    // an item can be less than this, and is no refusal
    private static final int FARTHEST_FAULT = -1000200;
    private static final String ALL_OPEN = "s3,4;o2,1;o5,0;z0,1,9;z1,0,1;";

    private final Edges edges = new Edges();
    private final List<String> lines;
    private final Map<String, List<String>> refusalsTold = new TreeMap<>();
    private final Set<String> shown = new TreeSet<>();

    private ReadmeTest(List<String> lines) {
        this.lines = lines;
    }

    /** Every line of every Java block is one of three forms, and each call answers what stands behind it. */
    private void tryBlocks() {
        Edges.Used x = null;
        boolean inBlock = false;
        for (int i = 0; i < lines.size(); i++) {
            String line = lines.get(i).trim();
            edges.about("README.md, line " + (i + 1));
            if (line.startsWith("```")) {
                inBlock = line.equals("```java");
                x = null;
            } else if (inBlock && line.equals(MADE)) {
                x = edges.fresh();
            } else if (inBlock) {
                tryLine(x, line);
            } else if (line.contains("x.")) {
                edges.complain("a call outside of a block, which is not tried");
            }
        }
    }

    private void tryLine(Edges.Used x, String line) {
        Matcher fed = FED.matcher(line);
        Matcher call = SHOWN.matcher(line);
        if (x == null) {
            edges.complain("no object was made");
        } else if (fed.matches()) {
            edges.feed(x, fed.group(1));
            shown.add("feed");
        } else if (call.matches() && Edges.FACE.containsKey(call.group(1))) {
            edges.due(x, call.group(1) + "(" + call.group(2) + ") " + call.group(3));
            shown.add(call.group(1));
        } else {
            edges.complain("not understood: " + line);
        }
    }

    private void readTables() {
        for (int i = 0; i < lines.size(); i++) {
            edges.about("README.md, line " + (i + 1));
            Matcher call = TOLD.matcher(lines.get(i));
            Matcher numbered = NUMBERED.matcher(lines.get(i));
            if (call.matches()) {
                readCall(call.group(1), call.group(2), call.group(4));
            } else if (numbered.matches() && Edges.number(numbered.group(2)) != Long.parseLong(numbered.group(1))) {
                edges.complain(numbered.group(2) + " is not " + numbered.group(1));
            }
        }
    }

    private void readCall(String name, String names, String refusals) {
        Method m = Edges.FACE.get(name);
        int count = names.isEmpty() ? 0 : names.split(", ").length;
        if (m == null || m.getParameterCount() != count) edges.complain("no such call");
        if (refusalsTold.containsKey(name)) edges.complain("told twice");
        List<String> told = new ArrayList<>();
        Matcher word = REFUSAL.matcher(refusals);
        while (word.find()) told.add(word.group(1));
        refusalsTold.put(name, told);
    }

    private void lookForAll() throws Exception {
        String page = String.join("\n", lines);
        for (String name : Edges.FACE.keySet()) {
            edges.about("README.md, " + name);
            if (!refusalsTold.containsKey(name)) edges.complain("is in no table");
            if (!shown.contains(name)) edges.complain("is never shown with its answer");
        }
        for (String refusal : REFUSALS) {
            edges.about("README.md");
            if (!page.contains("| " + Edges.number(refusal) + " | ")) edges.complain("does not tell the number of " + refusal);
        }
        try (var tests = Files.newDirectoryStream(Path.of("src/test/java"), "*Test.java")) {
            for (Path test : tests) {
                String name = test.getFileName().toString().replace(".java", "");
                if (!page.contains("`" + name + "`")) edges.complain("does not tell of " + name);
            }
        }
        for (Method m : Edges.FACE.values()) lookAtNames(m, page);
    }

    /** The names of what a call takes are the document's. */
    private void lookAtNames(Method m, String page) throws Exception {
        Path document = Path.of("../shared/DOC.md");
        if (!Files.exists(document)) return;
        Matcher face = Pattern.compile("public \\w+ " + m.getName() + "\\((.*)\\);").matcher(Files.readString(document));
        edges.about("README.md, " + m.getName());
        if (!face.find()) {
            edges.complain("is not in the document's face");
        } else if (!page.contains("| `" + m.getName() + "(" + face.group(1).replace("int ", "") + ")` |")) {
            edges.complain("does not take what the document says: " + face.group(1));
        }
    }

    /** The refusals that a call is seen to answer, over many numbers in many states, are just those of its row. */
    private void tryRefusals() {
        for (Map.Entry<String, List<String>> told : refusalsTold.entrySet()) {
            String name = told.getKey();
            edges.about("README.md, " + name);
            Set<String> due = new TreeSet<>(told.getValue());
            // with all gates fallen all eat, so that the document's NONE is never answered
            if (name.equals("falls") && !due.remove("NONE")) edges.complain("the document's NONE is not told");
            Set<String> seen = refusalsSeen(name);
            if (!seen.equals(due)) edges.complain("tells of " + due + ", seen are " + seen);
            tryOrder(name, told.getValue());
        }
    }

    private void tryOrder(String name, List<String> told) {
        if (Edges.FACE.get(name).getParameterCount() == 0 || told.isEmpty()) return;
        String call = callOf(name, () -> Integer.MIN_VALUE);
        String first = nameOf(edges.answer(edges.fresh(), call));
        if (!told.get(0).equals(first)) edges.complain("without a shore, with wrong numbers, " + first + " comes first");
    }

    private Set<String> refusalsSeen(String name) {
        Random draws = new Random(7);
        Set<String> seen = new TreeSet<>();
        for (int state = 0; state < 5; state++) {
            for (int objects = 0; objects < 40; objects++) {
                Edges.Used x = state(state);
                while (x.calls < 400) {
                    long got = edges.answer(x, callOf(name, () -> TRIED[draws.nextInt(TRIED.length)]));
                    if (got <= JawShores.NONE && got >= FARTHEST_FAULT) seen.add(nameOf(got));
                }
            }
        }
        return seen;
    }

    private Edges.Used state(int number) {
        switch (number) {
            case 0: return edges.fresh("row(0, 0, 12)", "row(1, 1, 12)");
            case 1: return edges.lived();
            case 2: return edges.told(ALL_OPEN, "row(0, 0, 12)");
            case 3: return late();
            default: return fullTape();
        }
    }

    private Edges.Used late() {
        Edges.Used x = edges.told(Edges.FIVE);
        for (int i = 0; i < 41; i++) edges.answer(x, "days(24)");
        return x;
    }

    private Edges.Used fullTape() {
        Edges.Used x = edges.told(Edges.FIVE);
        edges.feed(x, "s".repeat(100));
        return x;
    }

    private static String callOf(String name, java.util.function.IntSupplier numbers) {
        StringBuilder call = new StringBuilder(name).append('(');
        for (int i = 0; i < Edges.FACE.get(name).getParameterCount(); i++) call.append(i == 0 ? "" : ", ").append(numbers.getAsInt());
        return call.append(')').toString();
    }

    private static String nameOf(long answer) {
        for (String refusal : REFUSALS) if (Edges.number(refusal) == answer) return refusal;
        return answer <= -1000100 && answer >= FARTHEST_FAULT ? "a fault" : "" + answer;
    }

    public static void main(String[] args) throws Exception {
        ReadmeTest test = new ReadmeTest(Files.readAllLines(Path.of("README.md")));
        test.tryBlocks();
        test.readTables();
        test.lookForAll();
        test.tryRefusals();
        test.edges.end();
    }
}
