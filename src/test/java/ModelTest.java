import java.math.BigInteger;
import java.util.ArrayDeque;
import java.util.ArrayList;
import java.util.Arrays;
import java.util.Deque;
import java.util.HashMap;
import java.util.HashSet;
import java.util.List;
import java.util.Map;
import java.util.Random;
import java.util.Set;
import java.util.TreeMap;
import java.util.TreeSet;
import java.util.regex.Matcher;
import java.util.regex.Pattern;

/** Runs of calls drawn by fixed seeds, answered by the class and by a second, plain writing of the document. */
public final class ModelTest {
    private static final int NONE = -1000000, BAD = -1000001, STATE = -1000002, FULL = -1000003;
    private static final int RUNS = 1500, CALLS = 300;

    /** One who goes; never changed, so that the past stays as it was. */
    private record Person(int at, boolean in, Set<Integer> of, int heading, long fish, int hungry, boolean stays) {
        Person heads(int h) { return new Person(at, in, of, h, fish, hungry, stays); }
        Person has(long f) { return new Person(at, in, of, heading, f, hungry, stays); }
        Person isAt(int g) { return new Person(g, in, of, heading, fish, hungry, stays); }
        Person starves() { return new Person(at, in, of, heading, fish, hungry + 1, stays); }
        Person rests(boolean s) { return new Person(at, in, of, heading, fish, hungry, s); }
        Person crosses(Set<Integer> o) { return new Person(at, !in, o, heading, fish, hungry, stays); }
    }

    private record Gate(char sort, int length, boolean out, boolean fallen) {
        Gate flipped() { return new Gate(sort, length, !out, fallen); }
        Gate down(boolean f) { return new Gate(sort, length, out, f); }
        Gate like(char s) { return new Gate(s, length, out, fallen); }
    }

    private record World(int dinner, int toll, int day, List<Gate> gates, List<Person> people) {
        World with(int g, Gate gate) {
            List<Gate> l = new ArrayList<>(gates);
            l.set(g, gate);
            return new World(dinner, toll, day, List.copyOf(l), people);
        }
        World with(int p, Person person) {
            List<Person> l = new ArrayList<>(people);
            l.set(p, person);
            return new World(dinner, toll, day, gates, List.copyOf(l));
        }
        Person crossed(Person who) {
            Gate g = gates.get(who.at);
            Set<Integer> of = new TreeSet<>(who.of);
            boolean asIn = !who.in;
            if (g.out) asIn = !asIn;
            if (!g.fallen) {
                if (asIn && (g.sort == 'j' || g.sort == 't')) of.clear();
                if (asIn && "jwt".indexOf(g.sort) >= 0) of.add(who.at);
                if (!asIn && g.sort == 't') of.remove(who.at);
                if (!asIn && g.sort == 'm') of.clear();
            }
            return who.crosses(of);
        }
        Person next(Person who) {
            if (!who.stays) {
                if (who.in) who = crossed(who);
                if (who.heading == 1 && who.at == gates.size() - 1) who = who.heads(0);
                else if (who.heading == 0 && who.at == 0) who = who.heads(1);
                who = crossed(who.isAt(who.heading == 1 ? who.at + 1 : who.at - 1));
            }
            if (!who.in) return who;
            Gate g = gates.get(who.at);
            if (who.of.contains(who.at) || g.fallen || g.sort == 'o' || g.sort == 'm') return who.has(Math.min(99, who.fish + dinner));
            return who.fish >= toll ? who.has(who.fish - toll) : who.starves();
        }
        World next() {
            List<Person> l = new ArrayList<>();
            for (Person p : people) l.add(next(p));
            return new World(dinner, toll, day + 1, gates, l);
        }
        World behind(int n) {
            World w = this;
            for (int i = 0; i < n; i++) w = w.next();
            return w;
        }
        int hungry() { return people.stream().mapToInt(Person::hungry).sum(); }
        World turned(int bits) {
            World w = this;
            for (int g = 0; g < gates.size(); g++) if ((bits >> g & 1) == 1) w = w.with(g, w.gates.get(g).flipped());
            return w;
        }
        World felled(int bits) {
            World w = this;
            for (int g = 0; g < gates.size(); g++) if ((bits >> g & 1) == 1) w = w.with(g, w.gates.get(g).down(true));
            return w;
        }
        int fallenBits() {
            int bits = 0;
            for (int g = 0; g < gates.size(); g++) if (gates.get(g).fallen) bits += 1 << g;
            return bits;
        }
    }

    private static int bits(Set<Integer> set) {
        int b = 0;
        for (int i : set) b += 1 << i;
        return b;
    }

    private static final class Model {
        World world;
        final int[][] rows = new int[8][];
        final int[] lanes = new int[8];
        String tape = "";
        int fault, status;
        final Deque<World> past = new ArrayDeque<>();
        final World[] images = new World[2];
        List<Integer> trace = new ArrayList<>();

        private int finding(int number) {
            status = number;
            return -1000010 - number;
        }
        private int fine(int answer) {
            status = 0;
            return answer;
        }
        private boolean noRow(int r) { return r < 0 || r > 7; }
        private boolean noGate(int g) { return world == null || g < 0 || g >= world.gates.size(); }
        private boolean noPerson(int p) { return world == null || p < 0 || p >= world.people.size(); }
        private void act(World then) {
            past.addLast(world);
            if (past.size() > 24) past.removeFirst();
            world = then;
        }

        int row(int r, int lane, int n) {
            if (noRow(r) || lane < 0 || lane > 2 || n > 40) return BAD;
            if (n < 0) return finding(4);
            rows[r] = new int[n];
            lanes[r] = lane;
            return fine(n);
        }
        int set(int r, int i, int v) {
            if (noRow(r)) return BAD;
            if (rows[r] == null) return finding(1);
            if (i < 0 || i >= rows[r].length) return finding(2);
            int drop = new int[] {24, 16, 0}[lanes[r]];
            rows[r][i] = v << drop >> drop;
            return fine(rows[r][i]);
        }
        int copy(int a, int i, int b, int j, int n) {
            if (noRow(a) || noRow(b)) return BAD;
            if (rows[a] == null || rows[b] == null) return finding(1);
            if (lanes[a] != lanes[b]) return finding(5);
            if (i < 0 || j < 0 || n < 0 || (long) i + n > rows[a].length || (long) j + n > rows[b].length) return finding(2);
            int[] old = rows[a].clone();
            for (int k = 0; k < n; k++) rows[b][j + k] = old[i + k];
            return fine(n);
        }
        int drop(int r) {
            if (noRow(r)) return BAD;
            if (rows[r] == null) return finding(1);
            int n = rows[r].length;
            rows[r] = null;
            return fine(n);
        }
        int feed(int c) {
            if (c < 0 || c > 255) return BAD;
            if (tape.length() == 100) return FULL;
            tape += (char) c;
            return tape.length();
        }
        /** The grammar as a regular expression of what may come next, token by token. */
        int shore() {
            String text = tape;
            tape = "";
            List<String> tokens = new ArrayList<>();
            List<Integer> places = new ArrayList<>();
            Matcher m = Pattern.compile("[0-9]+|.", Pattern.DOTALL).matcher(text);
            while (m.find()) {
                tokens.add(m.group());
                places.add(m.start());
            }
            tokens.add("");
            places.add(text.length());
            int at = 0, gates = 0, people = 0;
            List<Integer> numbers = new ArrayList<>();
            List<Character> sorts = new ArrayList<>();
            String[] frame = {"s", "N1-9", ",", "N1-30", ";"};
            int step = 0;
            boolean done = false;
            while (!done) {
                String t = tokens.get(at);
                int bad = 0;
                if (step == frame.length) {
                    boolean gate = t.length() == 1 && "jwtom".contains(t);
                    if (gate && people == 0) {
                        if (gates == 6) bad = 3;
                        frame = new String[] {t, "N1-9", ",", "N0-1", ";"};
                        gates++;
                        sorts.add(t.charAt(0));
                    } else if (t.equals("z") && gates >= 2) {
                        if (people == 5) bad = 3;
                        frame = new String[] {"z", "N0-" + (gates - 1), ",", "N0-1", ",", "N0-99", ";"};
                        people++;
                    } else if (t.isEmpty() && people > 0) {
                        done = true;
                        continue;
                    } else {
                        bad = 1;
                    }
                    step = 0;
                }
                if (bad == 0) {
                    String want = frame[step];
                    if (want.startsWith("N")) {
                        if (!t.matches("[0-9]{1,2}")) bad = 1;
                        else {
                            int v = Integer.parseInt(t);
                            int dash = want.indexOf('-');
                            if (v < Integer.parseInt(want.substring(1, dash)) || v > Integer.parseInt(want.substring(dash + 1))) bad = 2;
                            numbers.add(v);
                        }
                    } else if (!want.equals(t)) {
                        bad = 1;
                    }
                }
                if (bad != 0) {
                    fault = bad;
                    return -1000100 - places.get(at);
                }
                step++;
                at++;
            }
            List<Gate> g = new ArrayList<>();
            List<Person> p = new ArrayList<>();
            int k = 2;
            for (char sort : sorts) {
                g.add(new Gate(sort, numbers.get(k), numbers.get(k + 1) == 1, false));
                k += 2;
            }
            for (; k < numbers.size(); k += 3) {
                p.add(new Person(numbers.get(k), false, Set.of(), numbers.get(k + 1), numbers.get(k + 2), 0, false));
            }
            world = new World(numbers.get(0), numbers.get(1), 0, g, p);
            past.clear();
            return g.size();
        }
        int fault() { return fault; }
        int undo() {
            if (past.isEmpty()) return STATE;
            world = past.removeLast();
            return past.size();
        }
        int days(int n) {
            if (world == null) return STATE;
            if (n < 1 || n > 24) return BAD;
            if (world.day + n > 999) return FULL;
            for (int i = 0; i < n; i++) act(world.next());
            return world.hungry();
        }
        int cross(int p) {
            if (noPerson(p)) return BAD;
            act(world.with(p, world.crossed(world.people.get(p))));
            return bits(world.people.get(p).of);
        }
        int turn(int p) {
            if (noPerson(p)) return BAD;
            act(world.with(p, world.people.get(p).heads(1 - world.people.get(p).heading)));
            return world.people.get(p).heading;
        }
        int stay(int p, int on) {
            if (noPerson(p) || on < 0 || on > 1) return BAD;
            if (world.people.get(p).stays == (on == 1)) return STATE;
            act(world.with(p, world.people.get(p).rests(on == 1)));
            int b = 0;
            for (int i = 0; i < world.people.size(); i++) if (world.people.get(i).stays) b |= 1 << i;
            return b;
        }
        int round(int g) {
            if (noGate(g)) return BAD;
            act(world.turned(1 << g));
            return world.gates.get(g).out ? 1 : 0;
        }
        int fall(int g) {
            if (noGate(g)) return BAD;
            if (world.gates.get(g).fallen) return STATE;
            act(world.felled(1 << g));
            return world.fallenBits();
        }
        int setUp(int g) {
            if (noGate(g)) return BAD;
            if (!world.gates.get(g).fallen) return STATE;
            act(world.with(g, world.gates.get(g).down(false)));
            return world.fallenBits();
        }
        int gate(int g, int what) {
            if (noGate(g) || what < 0 || what > 4) return BAD;
            Gate gate = world.gates.get(g);
            if (what == 0) return gate.length;
            if (what == 1) return gate.out ? 1 : 0;
            if (what == 2) return gate.fallen ? 1 : 0;
            int b = 0;
            for (int i = 0; i < world.people.size(); i++) {
                Person p = world.people.get(i);
                if (p.at == g && p.in == (what == 3)) b |= 1 << i;
            }
            return b;
        }
        int person(int p, int what) {
            if (noPerson(p) || what < 0 || what > 6) return BAD;
            Person o = world.people.get(p);
            return new int[] {o.at, o.in ? 1 : 0, bits(o.of), o.heading, (int) o.fish, o.hungry, o.stays ? 1 : 0}[what];
        }
        int ahead(int p, int n, int what) {
            if (noPerson(p) || n < 0 || n > 60 || what < 0 || what > 4) return BAD;
            Person o = world.behind(n).people.get(p);
            return new int[] {o.at, o.in ? 1 : 0, bits(o.of), (int) o.fish, o.hungry}[what];
        }
        int when(int p, int g) {
            if (noPerson(p) || noGate(g)) return BAD;
            for (int n = 0; n <= 60; n++) if (world.behind(n).people.get(p).of.contains(g)) return n;
            return NONE;
        }
        int first(int what) {
            if (world == null) return STATE;
            if (what < 0 || what > 1) return BAD;
            World w = world;
            for (int n = 1; n <= 60; n++) {
                World then = w.next();
                for (int p = 0; p < w.people.size(); p++) {
                    if (then.people.get(p).hungry > w.people.get(p).hungry) return what == 0 ? p : n;
                }
                w = then;
            }
            return NONE;
        }
        private Map<Integer, Person> moves(Person o) {
            Map<Integer, Person> all = new TreeMap<>();
            all.put(0, world.crossed(o));
            if (!o.in && o.at + 1 < world.gates.size()) all.put(1, o.isAt(o.at + 1));
            if (!o.in && o.at > 0) all.put(2, o.isAt(o.at - 1));
            return all;
        }
        private int hours(Person a, Person b) {
            return a.at == b.at ? 1 : world.gates.get(Math.min(a.at, b.at)).length;
        }
        /** Fewest hours from everywhere a person can come to, mended until nothing changes. */
        private Map<Person, Integer> fewest(Person start) {
            Map<Person, Integer> best = new HashMap<>();
            best.put(start, 0);
            Deque<Person> open = new ArrayDeque<>(List.of(start));
            while (!open.isEmpty()) {
                Person o = open.removeFirst();
                for (Person next : moves(o).values()) {
                    int h = best.get(o) + hours(o, next);
                    if (!best.containsKey(next) || best.get(next) > h) {
                        best.put(next, h);
                        open.addLast(next);
                    }
                }
            }
            return best;
        }
        private int fewestTo(Person start, int set) {
            int best = Integer.MAX_VALUE;
            for (Map.Entry<Person, Integer> e : fewest(start).entrySet()) {
                if (bits(e.getKey().of) == set) best = Math.min(best, e.getValue());
            }
            return best;
        }
        int least(int p, int set, int what) {
            if (noPerson(p) || set < 0 || set >= 1 << world.gates.size() || what < 0 || what > 1) return BAD;
            Person o = world.people.get(p);
            int best = fewestTo(o, set);
            if (best == Integer.MAX_VALUE) return NONE;
            if (what == 0) return best;
            if (best == 0) return NONE;
            for (Map.Entry<Integer, Person> e : moves(o).entrySet()) {
                int rest = fewestTo(e.getValue(), set);
                if (rest != Integer.MAX_VALUE && rest + hours(o, e.getValue()) == best) return e.getKey();
            }
            return -7;
        }
        int ways(int p, int set, int k) {
            if (noPerson(p) || set < 0 || set >= 1 << world.gates.size() || k < 0 || k > 8) return BAD;
            Map<Person, Integer> now = new HashMap<>(Map.of(world.people.get(p), 1));
            for (int i = 0; i < k; i++) {
                Map<Person, Integer> then = new HashMap<>();
                now.forEach((o, c) -> moves(o).values().forEach(q -> then.merge(q, c, Integer::sum)));
                now = then;
            }
            int all = 0;
            for (Map.Entry<Person, Integer> e : now.entrySet()) if (bits(e.getKey().of) == set) all += e.getValue();
            return all;
        }
        int rounds(int p, int g, int n, int what) {
            if (noPerson(p) || noGate(g) || n < 1 || n > 30 || what < 0 || what > 1) return BAD;
            int best = NONE;
            for (int s = (1 << world.gates.size()) - 1; s >= 0; s--) {
                World w = world.turned(s);
                Person o = w.people.get(p);
                for (int i = 0; i < n; i++) o = w.next(o);
                if (o.of.contains(g) && (best == NONE || Integer.bitCount(s) <= Integer.bitCount(best))) best = s;
            }
            return best == NONE || what == 1 ? best : Integer.bitCount(best);
        }
        int falls(int n, int what) {
            if (world == null) return STATE;
            if (n < 1 || n > 30 || what < 0 || what > 1) return BAD;
            int best = NONE;
            for (int s = (1 << world.gates.size()) - 1; s >= 0; s--) {
                if ((s & world.fallenBits()) != 0) continue;
                boolean ok = world.felled(s).behind(n).hungry() == world.hungry();
                if (ok && (best == NONE || Integer.bitCount(s) <= Integer.bitCount(best))) best = s;
            }
            return best == NONE || what == 1 ? best : Integer.bitCount(best);
        }
        int fellows(int p) {
            if (noPerson(p)) return BAD;
            int b = 0;
            for (int i = 0; i < world.people.size(); i++) {
                if (i != p && world.people.get(i).of.equals(world.people.get(p).of)) b |= 1 << i;
            }
            return b;
        }
        int homes(int g) {
            if (noGate(g)) return BAD;
            int b = 0;
            for (int i = 0; i < world.people.size(); i++) if (world.people.get(i).of.contains(g)) b |= 1 << i;
            return b;
        }
        int share(int p, int n) {
            if (noPerson(p) || n < 0 || n > 999) return BAD;
            int total = world.people.stream().mapToInt(o -> o.of.size()).sum();
            if (total == 0) return 0;
            int[] gets = new int[world.people.size()];
            int over = n;
            for (int i = 0; i < gets.length; i++) over -= gets[i] = n * world.people.get(i).of.size() / total;
            for (int i = 0; i < gets.length && over > 0; i++) {
                if (!world.people.get(i).of.isEmpty()) {
                    gets[i]++;
                    over--;
                }
            }
            return gets[p];
        }
        private boolean eatsSo(World w, int p, int[] items) {
            for (int item : items) {
                World then = w.next();
                Person o = then.people.get(p);
                int eats = o.in && o.hungry == w.people.get(p).hungry ? 1 : 0;
                if (eats != item) return false;
                w = then;
            }
            return true;
        }
        private int placeOf(int r, int i, int n) {
            if (rows[r] == null) return 1;
            return i < 0 || (long) i + n > rows[r].length ? 2 : 0;
        }
        int what(int g, int which, int p, int r, int i, int n) {
            if (noGate(g) || which < 0 || which > 1 || noPerson(p) || noRow(r) || n < 1 || n > 12) return BAD;
            if (placeOf(r, i, n) != 0) return finding(placeOf(r, i, n));
            int[] items = Arrays.copyOfRange(rows[r], i, i + n);
            int b = 0;
            if (which == 0) {
                for (int k = 1; k <= 5; k++) {
                    if (eatsSo(world.with(g, world.gates.get(g).like("-jwtom".charAt(k))), p, items)) b += 1 << k;
                }
                return fine(b);
            }
            boolean out = world.gates.get(g).out;
            if (eatsSo(world, p, items)) b += out ? 2 : 1;
            if (eatsSo(world.turned(1 << g), p, items)) b += out ? 1 : 2;
            return fine(b);
        }
        int who(int p, int which, int r, int i, int n) {
            if (noPerson(p) || which < 0 || which > 2 || noRow(r) || n < 1 || n > 12) return BAD;
            if (placeOf(r, i, n) != 0) return finding(placeOf(r, i, n));
            int[] items = Arrays.copyOfRange(rows[r], i, i + n);
            Person o = world.people.get(p);
            int b = 0;
            if (which == 0) for (int h = 0; h < 2; h++) if (eatsSo(world.with(p, o.heads(h)), p, items)) b += 1 << h;
            if (which == 1) for (int f = 0; f <= 30; f++) if (eatsSo(world.with(p, o.has(f)), p, items)) b += 1 << f;
            if (which == 2) {
                for (int g = 0; g < world.gates.size(); g++) {
                    if (!world.gates.get(g).fallen && eatsSo(world.felled(1 << g), p, items)) b += 1 << g;
                }
                if (eatsSo(world, p, items)) b += 64;
            }
            return fine(b);
        }
        long fed(int p, int n, int tenths, int what) {
            if (noPerson(p) || n < 0 || n > 30 || tenths < 0 || tenths > 10 || what < 0 || what > 1) return BAD;
            BigInteger above = BigInteger.ZERO, below = BigInteger.ONE;
            for (Gate g : world.gates) if (!g.fallen) below = below.multiply(BigInteger.TEN);
            for (int s = 0; s < 1 << world.gates.size(); s++) {
                if ((s & world.fallenBits()) != 0) continue;
                BigInteger cases = BigInteger.ONE;
                for (int g = 0; g < world.gates.size(); g++) {
                    if (!world.gates.get(g).fallen) cases = cases.multiply(BigInteger.valueOf((s >> g & 1) == 1 ? tenths : 10 - tenths));
                }
                World w = world.felled(s);
                Person o = w.people.get(p);
                for (int i = 0; i < n; i++) o = w.next(o);
                if (o.hungry == world.people.get(p).hungry) above = above.add(cases);
            }
            BigInteger d = above.gcd(below);
            return (what == 0 ? above : below).divide(d).longValue();
        }
        int drawn(int n, int seed, int what) {
            if (world == null) return STATE;
            if (n < 0 || n > 60 || seed < 1 || seed > 999999 || what < 0 || what > 1) return BAD;
            BigInteger x = BigInteger.valueOf(seed);
            World w = world;
            for (int i = 0; i < n; i++) {
                x = x.multiply(BigInteger.valueOf(16807)).mod(BigInteger.valueOf(2147483647));
                int v = x.intValue();
                int g = v % w.gates.size();
                if (v % 3 == 0) w = w.turned(1 << g);
                else if (v % 5 == 0) w = w.with(g, w.gates.get(g).down(!w.gates.get(g).fallen));
                w = w.next();
            }
            return what == 0 ? w.hungry() - world.hungry() : (int) w.people.stream().mapToLong(Person::fish).sum();
        }
        int image(int k) {
            if (k < 0 || k > 1) return BAD;
            if (world == null) return STATE;
            images[k] = world;
            return 1;
        }
        int restore(int k) {
            if (k < 0 || k > 1) return BAD;
            if (images[k] == null) return STATE;
            world = images[k];
            past.clear();
            return 1;
        }
        int kind(int g) { return noGate(g) ? BAD : "-jwtom".indexOf(world.gates.get(g).sort); }
        int as(int g, int kind) {
            if (noGate(g) || kind < 0 || kind > 5) return BAD;
            String is = new String[] {"", "01", "012", "013", "04", "045"}[kind(g)];
            return is.indexOf('0' + kind) >= 0 ? fine(g) : finding(3);
        }
        int ask(int g, int what) {
            if (noGate(g) || what < 0 || what > 1) return BAD;
            trace = new ArrayList<>();
            Asked a = made(g);
            int answer = what == 0 ? a.size() : a.mark();
            if (trace.size() > 16) trace = trace.subList(0, 16);
            return answer;
        }
        private Asked made(int g) {
            int length = world.gates.get(g).length;
            int of = Integer.bitCount(homes(g));
            switch (world.gates.get(g).sort) {
                case 'j': return new JawGate(trace, g, length, of);
                case 'w': return new WideGate(trace, g, length, of);
                case 't': return new TellerGate(trace, g, length, of);
                case 'o': return new OpenGate(trace, g, length, of);
                default: return new SmokeGate(trace, g, length, of);
            }
        }
        int trace(int i) { return i < 0 || i >= trace.size() ? NONE : trace.get(i); }
        int count(int what) {
            if (what < 0 || what > 7) return BAD;
            int n = 0;
            for (int[] r : rows) if (r != null) n++;
            if (what == 0) return n;
            if (what == 6) return past.size();
            if (what == 7) return tape.length();
            if (world == null) return 0;
            return new int[] {0, world.gates.size(), world.people.size(), world.day, world.fallenBits(), world.hungry()}[what];
        }
        int status() { return status; }
    }

    private interface Lender {
        List<Integer> left();
        int number();
        int length();
        default int size() {
            left().add(10);
            return length();
        }
        default int mark() {
            left().add(20);
            return number();
        }
    }

    private abstract static class Asked implements Lender {
        final List<Integer> left;
        final int number, length, of;
        Asked(List<Integer> left, int number, int length, int of) {
            this.left = left;
            this.number = number;
            this.length = length;
            this.of = of;
        }
        public List<Integer> left() { return left; }
        public int number() { return number; }
        public int length() { return length; }
    }

    private static class JawGate extends Asked {
        JawGate(List<Integer> left, int number, int length, int of) { super(left, number, length, of); }
        public int size() {
            left.add(11);
            return super.size() + mark();
        }
        public int mark() {
            left.add(21);
            return super.mark() + of;
        }
    }

    private static class WideGate extends JawGate {
        WideGate(List<Integer> left, int number, int length, int of) { super(left, number, length, of); }
        public int size() {
            left.add(12);
            return 0 - super.size();
        }
        public int mark() {
            left.add(24);
            return super.mark() * 2;
        }
    }

    private static class TellerGate extends JawGate {
        TellerGate(List<Integer> left, int number, int length, int of) { super(left, number, length, of); }
        public int mark() {
            left.add(22);
            return super.mark() - 1000;
        }
    }

    private static class OpenGate extends Asked {
        OpenGate(List<Integer> left, int number, int length, int of) { super(left, number, length, of); }
        public int size() {
            left.add(13);
            return super.size() - 100;
        }
        public int mark() {
            left.add(23);
            return super.mark() - size();
        }
    }

    private static class SmokeGate extends OpenGate {
        SmokeGate(List<Integer> left, int number, int length, int of) { super(left, number, length, of); }
        public int size() {
            left.add(14);
            return super.size() * 2;
        }
    }

    private static Random random;

    /** Mostly a number from 0 to most, at times one beside, at times a wild one. */
    private static int pick(int most) {
        int dice = random.nextInt(40);
        if (dice == 0) return -1;
        if (dice == 1) return most + 1;
        if (dice == 2 && random.nextInt(6) == 0) return random.nextBoolean() ? Integer.MAX_VALUE : Integer.MIN_VALUE;
        return random.nextInt(most + 1);
    }

    private static int some(int least, int most) {
        return least + random.nextInt(most - least + 1);
    }

    private static String text() {
        StringBuilder b = new StringBuilder();
        b.append('s').append(some(1, 9)).append(',').append(random.nextInt(3) == 0 ? some(1, 30) : some(1, 9)).append(';');
        int gates = random.nextInt(25) == 0 ? some(0, 7) : some(2, 6);
        String sorts = random.nextInt(3) == 0 ? "jwt" : random.nextInt(3) == 0 ? "wwwj" : "jwtom";
        for (int g = 0; g < gates; g++) {
            b.append(sorts.charAt(random.nextInt(sorts.length()))).append(some(1, 9)).append(',').append(some(0, 1)).append(';');
        }
        int people = random.nextInt(25) == 0 ? some(0, 6) : some(1, 5);
        for (int p = 0; p < people; p++) {
            b.append('z').append(some(0, Math.max(0, gates - 1))).append(',').append(some(0, 1)).append(',');
            b.append(random.nextInt(3) == 0 ? some(0, 99) : some(0, 12)).append(';');
        }
        for (int i = random.nextInt(3) == 0 ? some(1, 2) : 0; i > 0 && b.length() > 0; i--) {
            int at = random.nextInt(b.length());
            String signs = "0123456789,;sjwtomzq A\u00e9";
            char c = signs.charAt(random.nextInt(signs.length()));
            int how = random.nextInt(4);
            if (how == 0) b.setCharAt(at, c);
            else if (how == 1) b.insert(at, c);
            else if (how == 2) b.deleteCharAt(at);
            else b.setLength(at);
        }
        return b.toString();
    }

    private static int wrong = 0;
    private static final Map<String, Integer> seen = new TreeMap<>();
    private static final Map<String, Set<Long>> answers = new TreeMap<>();

    private static void same(int run, String call, int[] a, long got, long want) {
        seen.merge(call, 1, Integer::sum);
        answers.computeIfAbsent(call, c -> new HashSet<>()).add(want);
        if (got != want && wrong++ < 40) {
            System.out.println("run " + run + ": " + call + Arrays.toString(a) + " answered " + got + ", the model says " + want);
        }
    }

    private static void tell(int run, JawShores x, Model m) {
        String text = text();
        for (int i = 0; i < text.length(); i++) {
            int[] a = {text.charAt(i)};
            same(run, "feed", a, x.feed(a[0]), m.feed(a[0]));
        }
        same(run, "shore of " + (text.length() > 100 ? "much" : "a text"), new int[0], x.shore(), m.shore());
        same(run, "fault", new int[0], x.fault(), m.fault());
    }

    private static void dinners(int run, JawShores x, Model m) {
        int r = some(0, 7), n = some(1, 12), p = some(0, 4);
        int[] made = {r, some(0, 2), n};
        same(run, "row", made, x.row(r, made[1], n), m.row(r, made[1], n));
        World w = m.world;
        for (int i = 0; i < n; i++) {
            int v = random.nextInt(60) == 0 ? some(-1, 300) : some(0, 1);
            if (w != null && p < w.people.size() && random.nextInt(10) != 0) {
                World then = w.next();
                Person o = then.people.get(p);
                v = o.in && o.hungry == w.people.get(p).hungry ? 1 : 0;
                w = then;
            }
            same(run, "set", new int[] {r, i, v}, x.set(r, i, v), m.set(r, i, v));
        }
        for (int which = 0; which < 3; which++) {
            int g = some(0, 5);
            same(run, "what", new int[] {g, which, p, r, 0, n}, x.what(g, which, p, r, 0, n), m.what(g, which, p, r, 0, n));
            same(run, "who", new int[] {p, which, r, 0, n}, x.who(p, which, r, 0, n), m.who(p, which, r, 0, n));
        }
    }

    private static void call(int run, JawShores x, Model m) {
        int p = pick(random.nextInt(3) == 0 ? 4 : 1), g = pick(random.nextInt(3) == 0 ? 5 : 2), w = pick(1);
        int r = pick(3), i = pick(13), j = pick(13), n = pick(30), set = random.nextInt(4) == 0 ? pick(63) : pick(7);
        int[] a = {p, g, w, r, i, j, n, set};
        switch (random.nextInt(46)) {
            case 0: case 1: same(run, "row", a, x.row(r, w, i), m.row(r, w, i)); break;
            case 2: same(run, "set", a, x.set(r, i, n - 3), m.set(r, i, n - 3)); break;
            case 3: same(run, "set", a, x.set(r, i, n * 0x13579bd), m.set(r, i, n * 0x13579bd)); break;
            case 4: same(run, "copy", a, x.copy(r, i, p, j, w * 3), m.copy(r, i, p, j, w * 3)); break;
            default: others(run, x, m, a); break;
        }
    }

    private static void others(int run, JawShores x, Model m, int[] a) {
        int p = a[0], g = a[1], w = a[2], r = a[3], i = a[4], n = a[6], set = a[7];
        int five = pick(4), seven = pick(6), twelve = pick(12), sixty = pick(60), k = pick(8), tenth = pick(10), seed = pick(999999);
        switch (random.nextInt(38)) {
            case 0: same(run, "undo", a, x.undo(), m.undo()); break;
            case 1: case 2: same(run, "days", new int[] {five}, x.days(five), m.days(five)); break;
            case 3: same(run, "days", new int[] {n}, x.days(n), m.days(n)); break;
            case 4: case 5: same(run, "cross", a, x.cross(p), m.cross(p)); break;
            case 6: same(run, "turn", a, x.turn(p), m.turn(p)); break;
            case 7: same(run, "stay", a, x.stay(p, w), m.stay(p, w)); break;
            case 8: same(run, "round", a, x.round(g), m.round(g)); break;
            case 9: same(run, "fall", a, x.fall(g), m.fall(g)); break;
            case 10: same(run, "setUp", a, x.setUp(g), m.setUp(g)); break;
            case 11: same(run, "gate", a, x.gate(g, five), m.gate(g, five)); break;
            case 12: same(run, "person", a, x.person(p, seven), m.person(p, seven)); break;
            case 13: same(run, "ahead", new int[] {p, sixty, five}, x.ahead(p, sixty, five), m.ahead(p, sixty, five)); break;
            case 14: same(run, "when", a, x.when(p, g), m.when(p, g)); break;
            case 15: same(run, "first", a, x.first(w), m.first(w)); break;
            case 16: case 17: same(run, "least", new int[] {p, set, w}, x.least(p, set, w), m.least(p, set, w)); break;
            case 18: same(run, "ways", new int[] {p, set, k}, x.ways(p, set, k), m.ways(p, set, k)); break;
            case 19: case 20: same(run, "rounds", new int[] {p, g, n, w}, x.rounds(p, g, n, w), m.rounds(p, g, n, w)); break;
            case 21: same(run, "falls", new int[] {n, w}, x.falls(n, w), m.falls(n, w)); break;
            case 22: same(run, "fellows", a, x.fellows(p), m.fellows(p)); break;
            case 23: same(run, "homes", a, x.homes(g), m.homes(g)); break;
            case 24: same(run, "share", new int[] {p, n}, x.share(p, n), m.share(p, n)); break;
            case 25: same(run, "share", new int[] {p, seed % 1001}, x.share(p, seed % 1001), m.share(p, seed % 1001)); break;
            case 26: same(run, "what", a, x.what(g, w, p, r, i, twelve), m.what(g, w, p, r, i, twelve)); break;
            case 27: same(run, "who", a, x.who(p, five, r, i, twelve), m.who(p, five, r, i, twelve)); break;
            case 28: same(run, "fed", new int[] {p, n, tenth, w}, x.fed(p, n, tenth, w), m.fed(p, n, tenth, w)); break;
            case 29: same(run, "drawn", new int[] {sixty, seed, w}, x.drawn(sixty, seed, w), m.drawn(sixty, seed, w)); break;
            case 30: same(run, "image", a, x.image(w), m.image(w)); break;
            case 31: same(run, "restore", a, x.restore(w), m.restore(w)); break;
            case 32: same(run, "kind", a, x.kind(g), m.kind(g)); break;
            case 33: same(run, "as", a, x.as(g, five), m.as(g, five)); break;
            case 34: same(run, "ask", a, x.ask(g, w), m.ask(g, w)); break;
            case 35: same(run, "trace", a, x.trace(seven), m.trace(seven)); break;
            default: same(run, "count", a, x.count(k), m.count(k)); break;
        }
        same(run, "status", a, x.status(), m.status());
    }

    private static void dropAndSay(int run, JawShores x, Model m) {
        int r = pick(7);
        same(run, "drop", new int[] {r}, x.drop(r), m.drop(r));
    }

    /** All that can be seen, so that a call that changed what it must not is caught at once. */
    private static void look(int run, JawShores x, Model m) {
        for (int what = 0; what <= 7; what++) same(run, "count", new int[] {what}, x.count(what), m.count(what));
        for (int p = 0; p < 5; p++) {
            for (int what = 0; what < 7; what++) same(run, "person", new int[] {p, what}, x.person(p, what), m.person(p, what));
        }
        for (int g = 0; g < 6; g++) {
            for (int what = 0; what < 5; what++) same(run, "gate", new int[] {g, what}, x.gate(g, what), m.gate(g, what));
        }
    }

    public static void main(String[] args) {
        int runs = args.length > 0 ? Integer.parseInt(args[0]) : RUNS;
        int firstSeed = args.length > 1 ? Integer.parseInt(args[1]) : 1;
        for (int run = firstSeed; run < firstSeed + runs; run++) {
            random = new Random(run);
            JawShores x = new JawShores();
            Model m = new Model();
            for (int c = 0; c < CALLS; c++) {
                int dice = random.nextInt(100);
                if (c == 5 || dice == 0) tell(run, x, m);
                else if (dice <= 2) dinners(run, x, m);
                else if (dice == 3) dropAndSay(run, x, m);
                else if (dice == 4) look(run, x, m);
                else call(run, x, m);
            }
            look(run, x, m);
        }
        for (String call : seen.keySet()) {
            if (args.length > 0) System.out.println(call + ": " + seen.get(call) + " calls, " + answers.get(call).size() + " answers");
        }
        System.out.println(wrong == 0 ? "all answers are the model's" : wrong + " answers are not the model's");
        if (wrong != 0) System.exit(1);
    }
}
