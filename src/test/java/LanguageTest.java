import java.lang.reflect.Constructor;
import java.lang.reflect.Field;
import java.lang.reflect.Method;
import java.lang.reflect.Modifier;
import java.util.ArrayList;
import java.util.Arrays;
import java.util.HashSet;
import java.util.List;
import java.util.Set;
import java.util.TreeSet;

/** The face as the class bears it, and that no call ever throws. */
public final class LanguageTest {
    private static final String FACE = "row 3,set 3,copy 5,drop 1,feed 1,shore 0,fault 0,undo 0,days 1,cross 1,turn 1,stay 2,"
        + "round 1,fall 1,setUp 1,gate 2,person 2,ahead 3,when 2,first 1,least 3,ways 3,rounds 4,falls 2,fellows 1,homes 1,"
        + "share 2,what 6,who 5,fed 4,drawn 3,image 1,restore 1,kind 1,as 2,ask 2,trace 1,count 1,status 0";
    private static final int[] WILD = {Integer.MIN_VALUE, -1000001, -1, 0, 1, 2, 5, 12, 30, 40, 41, 63, 64, 255, 1000, 999999, Integer.MAX_VALUE};
    private static int wrong = 0;

    private static void say(String what) {
        wrong++;
        System.out.println(what);
    }

    private static void checkFace() {
        Class<?> c = JawShores.class;
        Set<String> wanted = new TreeSet<>(Arrays.asList(FACE.split(",")));
        Set<String> got = new TreeSet<>();
        Set<String> hidden = new HashSet<>();
        for (Method m : c.getDeclaredMethods()) {
            if (Modifier.isPublic(m.getModifiers())) {
                got.add(m.getName() + " " + m.getParameterCount());
                Class<?> due = m.getName().equals("fed") ? long.class : int.class;
                if (m.getReturnType() != due) say(m.getName() + " answers a " + m.getReturnType());
                for (Class<?> p : m.getParameterTypes()) if (p != int.class) say(m.getName() + " takes a " + p);
            } else if (Modifier.isPrivate(m.getModifiers())) {
                hidden.add(m.getName());
            } else if (!m.isSynthetic()) {
                say(m.getName() + " can be seen in the package");
            }
        }
        if (!wanted.equals(got)) say("the face is " + got);
        for (Class<?> inside : c.getDeclaredClasses()) {
            if (!Modifier.isStatic(inside.getModifiers())) say(inside + " is not static");
            for (Method m : inside.getDeclaredMethods()) hidden.add(m.getName());
            if (inside.getDeclaredFields().length > 20) say(inside + " has many fields");
        }
        for (String face : wanted) if (hidden.contains(face.split(" ")[0])) say("a hidden method is named " + face);
        for (Constructor<?> made : c.getDeclaredConstructors()) {
            if (!Modifier.isPublic(made.getModifiers()) || made.getParameterCount() != 0) say("a constructor more: " + made);
        }
        Set<String> constants = new TreeSet<>();
        for (Field f : c.getDeclaredFields()) {
            if (Modifier.isPublic(f.getModifiers())) constants.add(f.getName());
            else if (!Modifier.isPrivate(f.getModifiers())) say(f + " can be seen in the package");
            if (Modifier.isStatic(f.getModifiers()) && !Modifier.isFinal(f.getModifiers())) say(f + " is static, not final");
        }
        if (!constants.equals(new TreeSet<>(List.of("NONE", "BAD", "STATE", "FULL")))) say("the constants are " + constants);
        if (!Modifier.isFinal(c.getModifiers())) say("the class is not final");
    }

    private static JawShores told(String text) {
        JawShores x = new JawShores();
        for (int i = 0; i < text.length(); i++) x.feed(text.charAt(i));
        x.shore();
        for (int r = 0; r < 3; r++) x.row(r, r, new int[] {0, 13, 40}[r]);
        return x;
    }

    private static void callWild(JawShores x, Method m, int salt) throws Exception {
        Object[] a = new Object[m.getParameterCount()];
        int n = salt;
        for (int i = 0; i < a.length; i++) {
            a[i] = WILD[n % WILD.length];
            n = n / WILD.length + i * 5;
        }
        try {
            m.invoke(x, a);
        } catch (java.lang.reflect.InvocationTargetException thrown) {
            say(m.getName() + Arrays.toString(a) + " threw " + thrown.getCause());
        }
    }

    private static void checkNeverThrows() throws Exception {
        String[] texts = {"", "s1,1;o1,0;m1,1;z0,0,0;", "s9,30;j9,1;w9,1;t9,0;o9,1;m9,1;w9,0;z0,0,99;z5,1,0;z3,0,29;z2,1,30;z1,0,5;"};
        List<Method> face = new ArrayList<>();
        for (Method m : JawShores.class.getDeclaredMethods()) if (Modifier.isPublic(m.getModifiers())) face.add(m);
        face.sort((a, b) -> a.getName().compareTo(b.getName()));
        for (String text : texts) {
            for (Method m : face) {
                int all = 1;
                for (int i = 0; i < Math.min(3, m.getParameterCount()); i++) all *= WILD.length;
                JawShores x = told(text);
                for (int salt = 0; salt < all; salt++) {
                    if (salt % 400 == 399) x = told(text);
                    callWild(x, m, salt);
                }
            }
            JawShores x = told(text);
            int draw = 1;
            for (int i = 0; i < 20000; i++) {
                if (i % 500 == 499) x = told(text);
                draw = draw * 1103515245 + 12345;
                callWild(x, face.get((draw >>> 16) % face.size()), (draw >>> 8) % 1000003);
            }
        }
    }

    public static void main(String[] args) throws Exception {
        checkFace();
        checkNeverThrows();
        System.out.println(wrong == 0 ? "the rules are kept" : wrong + " rules are broken");
        if (wrong != 0) System.exit(1);
    }
}
