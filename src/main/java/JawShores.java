/** Villages with whale jaws for gates: who is of where, who eats, and what will come of it. See DOC.md. */
public final class JawShores {
    public static final int NONE = -1000000, BAD = -1000001, STATE = -1000002, FULL = -1000003;

    private static final int FINDING_BASE = -1000010, FAULT_BASE = -1000100;
    private static final int NULL = 1, PLACE = 2, NOT_THAT_KIND = 3, SIZE = 4, STORE = 5;

    private static final int MOST_ROWS = 8, MOST_ITEMS = 40, MOST_BYTES = 100;
    private static final int MOST_GATES = 6, MOST_PEOPLE = 5, MOST_FISH = 99, MOST_DAY = 999;
    private static final int MOST_ACTS = 24, MOST_IMAGES = 2, MOST_TRACED = 16;
    private static final int FAR_AHEAD = 60, MOST_TRIED_DAYS = 30, MOST_TOLD_DINNERS = 12, MOST_MOVES = 8;

    private static final int JAW = 1, WIDE = 2, TELLER = 3, OPEN = 4, SMOKE = 5;

    private final Row[] rows = new Row[MOST_ROWS];
    private final Tape tape = new Tape();
    private final Shore now = new Shore();
    private final Shore draft = new Shore();
    private final Shore[] images = new Shore[MOST_IMAGES];
    private final Acts acts = new Acts();
    private final Seer seer = new Seer();
    private final Paths paths = new Paths();
    private final Asks asks = new Asks();
    private int imagesKept;
    private int latestFault;
    private int latestFinding;

    public JawShores() {
        for (int i = 0; i < MOST_ROWS; i++) {
            rows[i] = new Row();
        }
        for (int k = 0; k < MOST_IMAGES; k++) {
            images[k] = new Shore();
        }
    }

    // ---- rows

    public int row(int row, int lane, int n) {
        if (!isRow(row) || !within(lane, 0, 2) || n > MOST_ITEMS) {
            return BAD;
        }
        if (n < 0) {
            return found(SIZE);
        }
        rows[row].begin(lane, n);
        return sound(n);
    }

    public int set(int row, int i, int v) {
        if (!isRow(row)) {
            return BAD;
        }
        int finding = rows[row].findingAt(i, 1);
        return finding != 0 ? found(finding) : sound(rows[row].put(i, v));
    }

    public int copy(int a, int i, int b, int j, int n) {
        if (!isRow(a) || !isRow(b)) {
            return BAD;
        }
        Row from = rows[a];
        Row to = rows[b];
        if (from.missing || to.missing) {
            return found(NULL);
        }
        if (from.lane != to.lane) {
            return found(STORE);
        }
        if (from.findingAt(i, n) != 0 || to.findingAt(j, n) != 0) {
            return found(PLACE);
        }
        System.arraycopy(from.items, i, to.items, j, n);
        return sound(n);
    }

    public int drop(int row) {
        if (!isRow(row)) {
            return BAD;
        }
        if (rows[row].missing) {
            return found(NULL);
        }
        rows[row].missing = true;
        return sound(rows[row].size);
    }

    // ---- what is told

    public int feed(int letter) {
        if (!within(letter, 0, 255)) {
            return BAD;
        }
        return tape.append(letter) ? tape.size : FULL;
    }

    public int shore() {
        boolean isRead = tape.readInto(draft);
        tape.size = 0;
        if (!isRead) {
            latestFault = tape.faultNumber;
            return FAULT_BASE - tape.faultPlace;
        }
        now.become(draft);
        acts.forgetAll();
        return now.gates;
    }

    public int fault() {
        return latestFault;
    }

    public int undo() {
        return acts.takeBack(now) ? acts.size : STATE;
    }

    // ---- what is done

    public int days(int n) {
        if (now.isNone()) {
            return STATE;
        }
        if (!within(n, 1, 24)) {
            return BAD;
        }
        if (now.day > MOST_DAY - n) {
            return FULL;
        }
        for (int i = 0; i < n; i++) {
            acts.keep(now);
            now.passDay();
        }
        return now.hungerOfAll();
    }

    public int cross(int person) {
        if (!now.hasPerson(person)) {
            return BAD;
        }
        acts.keep(now);
        Walker one = now.walkers[person];
        now.passGate(one);
        return one.of;
    }

    public int turn(int person) {
        if (!now.hasPerson(person)) {
            return BAD;
        }
        acts.keep(now);
        Walker one = now.walkers[person];
        one.heading = 1 - one.heading;
        return one.heading;
    }

    public int stay(int person, int on) {
        if (!now.hasPerson(person) || !within(on, 0, 1)) {
            return BAD;
        }
        Walker one = now.walkers[person];
        if (one.stays == (on == 1)) {
            return STATE;
        }
        acts.keep(now);
        one.stays = on == 1;
        return now.whoStays();
    }

    public int round(int gate) {
        if (!now.hasGate(gate)) {
            return BAD;
        }
        acts.keep(now);
        now.facing ^= 1 << gate;
        return bit(now.facing, gate);
    }

    public int fall(int gate) {
        if (!now.hasGate(gate)) {
            return BAD;
        }
        if (bit(now.fallen, gate) == 1) {
            return STATE;
        }
        acts.keep(now);
        now.fallen |= 1 << gate;
        return now.fallen;
    }

    public int setUp(int gate) {
        if (!now.hasGate(gate)) {
            return BAD;
        }
        if (bit(now.fallen, gate) == 0) {
            return STATE;
        }
        acts.keep(now);
        now.fallen &= ~(1 << gate);
        return now.fallen;
    }

    public int gate(int gate, int what) {
        if (!now.hasGate(gate)) {
            return BAD;
        }
        switch (what) {
            case 0: return now.lengths[gate];
            case 1: return bit(now.facing, gate);
            case 2: return bit(now.fallen, gate);
            case 3: return now.whoIsAt(gate, true);
            case 4: return now.whoIsAt(gate, false);
            default: return BAD;
        }
    }

    public int person(int person, int what) {
        if (!now.hasPerson(person)) {
            return BAD;
        }
        Walker one = now.walkers[person];
        switch (what) {
            case 0: return one.at;
            case 1: return one.inside ? 1 : 0;
            case 2: return one.of;
            case 3: return one.heading;
            case 4: return one.fish;
            case 5: return one.hunger;
            case 6: return one.stays ? 1 : 0;
            default: return BAD;
        }
    }

    // ---- foretold

    public int ahead(int person, int n, int what) {
        if (!now.hasPerson(person) || !within(n, 0, FAR_AHEAD)) {
            return BAD;
        }
        Walker then = seer.walkAhead(now, person, n);
        switch (what) {
            case 0: return then.at;
            case 1: return then.inside ? 1 : 0;
            case 2: return then.of;
            case 3: return then.fish;
            case 4: return then.hunger;
            default: return BAD;
        }
    }

    public int when(int person, int gate) {
        if (!now.hasPerson(person) || !now.hasGate(gate)) {
            return BAD;
        }
        return seer.daysUntilOf(now, person, gate);
    }

    public int first(int what) {
        if (now.isNone()) {
            return STATE;
        }
        return within(what, 0, 1) ? seer.hungryFirst(now, what) : BAD;
    }

    public int least(int person, int set, int what) {
        if (!now.hasPerson(person) || !now.hasSet(set) || !within(what, 0, 1)) {
            return BAD;
        }
        return paths.fewestHours(now, now.walkers[person], set, what);
    }

    public int ways(int person, int set, int k) {
        if (!now.hasPerson(person) || !now.hasSet(set) || !within(k, 0, MOST_MOVES)) {
            return BAD;
        }
        return Paths.waysFrom(now, Paths.stateOf(now.walkers[person]), set, k);
    }

    public int rounds(int person, int gate, int n, int what) {
        if (!now.hasPerson(person) || !now.hasGate(gate) || !within(n, 1, MOST_TRIED_DAYS) || !within(what, 0, 1)) {
            return BAD;
        }
        return sizeOrSet(seer.fewestTurned(now, person, gate, n), what);
    }

    public int falls(int n, int what) {
        if (now.isNone()) {
            return STATE;
        }
        if (!within(n, 1, MOST_TRIED_DAYS) || !within(what, 0, 1)) {
            return BAD;
        }
        return sizeOrSet(seer.fewestFallen(now, n), what);
    }

    public int fellows(int person) {
        return now.hasPerson(person) ? now.fellowsOf(person) : BAD;
    }

    public int homes(int gate) {
        return now.hasGate(gate) ? now.whoIsOf(gate) : BAD;
    }

    public int share(int person, int n) {
        if (!now.hasPerson(person) || !within(n, 0, 999)) {
            return BAD;
        }
        return now.shareOf(person, n);
    }

    public int what(int gate, int which, int person, int row, int i, int n) {
        if (!now.hasGate(gate) || !within(which, 0, 1) || !now.hasPerson(person) || !canTellDinners(row, n)) {
            return BAD;
        }
        int finding = rows[row].findingAt(i, n);
        if (finding != 0) {
            return found(finding);
        }
        seer.hearDinners(rows[row], i, n);
        return sound(which == 0 ? seer.kindsThatFit(now, gate, person) : seer.facingsThatFit(now, gate, person));
    }

    public int who(int person, int which, int row, int i, int n) {
        if (!now.hasPerson(person) || !within(which, 0, 2) || !canTellDinners(row, n)) {
            return BAD;
        }
        int finding = rows[row].findingAt(i, n);
        if (finding != 0) {
            return found(finding);
        }
        seer.hearDinners(rows[row], i, n);
        switch (which) {
            case 0: return sound(seer.headingsThatFit(now, person));
            case 1: return sound(seer.fishesThatFit(now, person));
            default: return sound(seer.fallsThatFit(now, person));
        }
    }

    public long fed(int person, int n, int p, int what) {
        if (!now.hasPerson(person) || !within(n, 0, MOST_TRIED_DAYS) || !within(p, 0, 10) || !within(what, 0, 1)) {
            return BAD;
        }
        return seer.likelyFed(now, person, n, p, what);
    }

    public int drawn(int n, int seed, int what) {
        if (now.isNone()) {
            return STATE;
        }
        if (!within(n, 0, FAR_AHEAD) || !within(seed, 1, 999999) || !within(what, 0, 1)) {
            return BAD;
        }
        return seer.yearsDrawn(now, n, seed, what);
    }

    public int image(int k) {
        if (!within(k, 0, MOST_IMAGES - 1)) {
            return BAD;
        }
        if (now.isNone()) {
            return STATE;
        }
        images[k].become(now);
        imagesKept |= 1 << k;
        return 1;
    }

    public int restore(int k) {
        if (!within(k, 0, MOST_IMAGES - 1)) {
            return BAD;
        }
        if (bit(imagesKept, k) == 0) {
            return STATE;
        }
        now.become(images[k]);
        acts.forgetAll();
        return 1;
    }

    // ---- asked

    public int kind(int one) {
        return now.hasGate(one) ? now.sorts[one] : BAD;
    }

    public int as(int one, int kind) {
        if (!now.hasGate(one) || !within(kind, 0, SMOKE)) {
            return BAD;
        }
        return Asks.isKind(now.sorts[one], kind) ? sound(one) : found(NOT_THAT_KIND);
    }

    public int ask(int one, int what) {
        if (!now.hasGate(one) || !within(what, 0, 1)) {
            return BAD;
        }
        return asks.answer(now, one, what);
    }

    public int trace(int i) {
        return within(i, 0, asks.traceSize - 1) ? asks.traced[i] : NONE;
    }

    public int count(int what) {
        switch (what) {
            case 0: return rowsThatAre();
            case 1: return now.gates;
            case 2: return now.people;
            case 3: return now.day;
            case 4: return now.fallen;
            case 5: return now.hungerOfAll();
            case 6: return acts.size;
            case 7: return tape.size;
            default: return BAD;
        }
    }

    public int status() {
        return latestFinding;
    }

    private static boolean within(int n, int least, int most) {
        return n >= least && n <= most;
    }

    private static int bit(int set, int i) {
        return set >> i & 1;
    }

    private static boolean isRow(int row) {
        return within(row, 0, MOST_ROWS - 1);
    }

    private static boolean canTellDinners(int row, int n) {
        return isRow(row) && within(n, 1, MOST_TOLD_DINNERS);
    }

    private static int sizeOrSet(int set, int what) {
        return set == NONE || what == 1 ? set : Integer.bitCount(set);
    }

    private int rowsThatAre() {
        int there = 0;
        for (int i = 0; i < MOST_ROWS; i++) {
            there += rows[i].missing ? 0 : 1;
        }
        return there;
    }

    private int found(int finding) {
        latestFinding = finding;
        return FINDING_BASE - finding;
    }

    private int sound(int answer) {
        latestFinding = 0;
        return answer;
    }

    /** A row keeps its room while it is missing, so that calls make no new arrays. */
    private static final class Row {
        final int[] items = new int[MOST_ITEMS];
        boolean missing = true;
        int lane;
        int size;

        void begin(int newLane, int n) {
            missing = false;
            lane = newLane;
            size = n;
            for (int i = 0; i < MOST_ITEMS; i++) {
                items[i] = 0;
            }
        }

        int put(int i, int v) {
            items[i] = lane == 0 ? (byte) v : lane == 1 ? (short) v : v;
            return items[i];
        }

        /** What is found where n items are wanted from i on; 0: they are there. */
        int findingAt(int i, int n) {
            if (missing) {
                return NULL;
            }
            // size - n rather than i + n, which could wrap around
            boolean isThere = n >= 0 && n <= size && i >= 0 && i <= size - n;
            return isThere ? 0 : PLACE;
        }
    }

    private static final class Walker {
        int at;
        int of;
        int heading;
        int fish;
        int hunger;
        boolean inside;
        boolean stays;

        void become(Walker other) {
            at = other.at;
            of = other.of;
            heading = other.heading;
            fish = other.fish;
            hunger = other.hunger;
            inside = other.inside;
            stays = other.stays;
        }
    }

    /** All that a text tells and days change; with no gates it is no shore. */
    private static final class Shore {
        int dinner;
        int toll;
        int day;
        int gates;
        int people;
        int facing;
        int fallen;
        final int[] sorts = new int[MOST_GATES];
        final int[] lengths = new int[MOST_GATES];
        final Walker[] walkers = new Walker[MOST_PEOPLE];

        Shore() {
            for (int p = 0; p < MOST_PEOPLE; p++) {
                walkers[p] = new Walker();
            }
        }

        void clear() {
            day = 0;
            gates = 0;
            people = 0;
            facing = 0;
            fallen = 0;
        }

        void become(Shore other) {
            dinner = other.dinner;
            toll = other.toll;
            day = other.day;
            gates = other.gates;
            people = other.people;
            facing = other.facing;
            fallen = other.fallen;
            for (int g = 0; g < MOST_GATES; g++) {
                sorts[g] = other.sorts[g];
                lengths[g] = other.lengths[g];
            }
            for (int p = 0; p < MOST_PEOPLE; p++) {
                walkers[p].become(other.walkers[p]);
            }
        }

        boolean isNone() {
            return gates == 0;
        }

        boolean hasGate(int g) {
            return within(g, 0, gates - 1);
        }

        boolean hasPerson(int p) {
            return within(p, 0, people - 1);
        }

        boolean hasSet(int set) {
            return within(set, 0, (1 << gates) - 1);
        }

        void addGate(int sort, int length, int facesOut) {
            sorts[gates] = sort;
            lengths[gates] = length;
            facing |= facesOut << gates;
            gates++;
        }

        void addWalker(int at, int heading, int fish) {
            Walker one = walkers[people];
            one.at = at;
            one.of = 0;
            one.heading = heading;
            one.fish = fish;
            one.hunger = 0;
            one.inside = false;
            one.stays = false;
            people++;
        }

        /** What one is of who was of these and has gone in, or out, by a gate. */
        int ofBehind(int gate, boolean goesIn, int of) {
            if (bit(fallen, gate) == 1) {
                return of;
            }
            int self = 1 << gate;
            boolean isAsIn = goesIn == (bit(facing, gate) == 0);
            switch (sorts[gate]) {
                case JAW: return isAsIn ? self : of;
                case WIDE: return isAsIn ? of | self : of;
                case TELLER: return isAsIn ? self : of & ~self;
                case SMOKE: return isAsIn ? of : 0;
                default: return of;
            }
        }

        boolean feedsFreely(int gate, int of) {
            return bit(of | fallen, gate) == 1 || sorts[gate] == OPEN || sorts[gate] == SMOKE;
        }

        void passGate(Walker one) {
            one.of = ofBehind(one.at, !one.inside, one.of);
            one.inside = !one.inside;
        }

        void passDay() {
            for (int p = 0; p < people; p++) {
                liveDay(walkers[p]);
            }
            day++;
        }

        /** Whether one eats on that day. */
        boolean liveDay(Walker one) {
            if (!one.stays) {
                if (one.inside) {
                    passGate(one);
                }
                walkOn(one);
                passGate(one);
            }
            return one.inside && dine(one);
        }

        private void walkOn(Walker one) {
            int last = one.heading == 1 ? gates - 1 : 0;
            if (one.at == last) {
                one.heading = 1 - one.heading;
            }
            one.at += one.heading == 1 ? 1 : -1;
        }

        private boolean dine(Walker one) {
            if (feedsFreely(one.at, one.of)) {
                one.fish = Math.min(MOST_FISH, one.fish + dinner);
                return true;
            }
            if (one.fish >= toll) {
                one.fish -= toll;
                return true;
            }
            one.hunger++;
            return false;
        }

        int hungerOfAll() {
            int all = 0;
            for (int p = 0; p < people; p++) {
                all += walkers[p].hunger;
            }
            return all;
        }

        int fishOfAll() {
            int all = 0;
            for (int p = 0; p < people; p++) {
                all += walkers[p].fish;
            }
            return all;
        }

        int whoStays() {
            int who = 0;
            for (int p = 0; p < people; p++) {
                who |= walkers[p].stays ? 1 << p : 0;
            }
            return who;
        }

        int whoIsAt(int gate, boolean inside) {
            int who = 0;
            for (int p = 0; p < people; p++) {
                who |= walkers[p].at == gate && walkers[p].inside == inside ? 1 << p : 0;
            }
            return who;
        }

        int whoIsOf(int gate) {
            int who = 0;
            for (int p = 0; p < people; p++) {
                who |= bit(walkers[p].of, gate) << p;
            }
            return who;
        }

        int fellowsOf(int person) {
            int who = 0;
            for (int p = 0; p < people; p++) {
                who |= p != person && walkers[p].of == walkers[person].of ? 1 << p : 0;
            }
            return who;
        }

        int shareOf(int person, int n) {
            int homesOfAll = 0;
            for (int p = 0; p < people; p++) {
                homesOfAll += Integer.bitCount(walkers[p].of);
            }
            if (homesOfAll == 0 || walkers[person].of == 0) {
                return 0;
            }
            int over = n;
            int homedAhead = 0;
            for (int p = 0; p < people; p++) {
                over -= n * Integer.bitCount(walkers[p].of) / homesOfAll;
                homedAhead += p < person && walkers[p].of != 0 ? 1 : 0;
            }
            return n * Integer.bitCount(walkers[person].of) / homesOfAll + (homedAhead < over ? 1 : 0);
        }
    }

    /** The text as it comes, and its reading. */
    private static final class Tape {
        // tokens that are no single byte bear numbers that no byte has
        private static final int NUMBER = 256, END = 257, NO_TOKEN = 258;
        private static final int CANNOT_STAND = 1, WRONG_NUMBER = 2, NO_ROOM = 3;

        final int[] bytes = new int[MOST_BYTES];
        int size;
        int faultNumber;
        int faultPlace;
        private int place;
        private int behind;
        private int token;
        private int value;
        private int taken;

        boolean append(int letter) {
            if (size >= MOST_BYTES) {
                return false;
            }
            bytes[size] = letter;
            size++;
            return true;
        }

        boolean readInto(Shore draft) {
            draft.clear();
            behind = 0;
            advance();
            return readLaw(draft) && readGates(draft) && readPeople(draft) && take(END);
        }

        private boolean readLaw(Shore draft) {
            if (!take('s') || !takeNumber(1, 9)) {
                return false;
            }
            draft.dinner = taken;
            if (!take(',') || !takeNumber(1, 30)) {
                return false;
            }
            draft.toll = taken;
            return take(';');
        }

        private boolean readGates(Shore draft) {
            // one round more than there is room for: it tells the fault
            for (int g = 0; g <= MOST_GATES && sortInView() != 0; g++) {
                if (!readGate(draft)) {
                    return false;
                }
            }
            return draft.gates >= 2 || refuse(CANNOT_STAND);
        }

        private boolean readGate(Shore draft) {
            if (draft.gates >= MOST_GATES) {
                return refuse(NO_ROOM);
            }
            int sort = sortInView();
            advance();
            if (!takeNumber(1, 9)) {
                return false;
            }
            int length = taken;
            if (!take(',') || !takeNumber(0, 1)) {
                return false;
            }
            draft.addGate(sort, length, taken);
            return take(';');
        }

        private boolean readPeople(Shore draft) {
            for (int p = 0; p <= MOST_PEOPLE && token == 'z'; p++) {
                if (!readPerson(draft)) {
                    return false;
                }
            }
            return draft.people >= 1 || refuse(CANNOT_STAND);
        }

        private boolean readPerson(Shore draft) {
            if (draft.people >= MOST_PEOPLE) {
                return refuse(NO_ROOM);
            }
            advance();
            if (!takeNumber(0, draft.gates - 1)) {
                return false;
            }
            int at = taken;
            if (!take(',') || !takeNumber(0, 1)) {
                return false;
            }
            int heading = taken;
            if (!take(',') || !takeNumber(0, MOST_FISH)) {
                return false;
            }
            draft.addWalker(at, heading, taken);
            return take(';');
        }

        private int sortInView() {
            switch (token) {
                case 'j': return JAW;
                case 'w': return WIDE;
                case 't': return TELLER;
                case 'o': return OPEN;
                case 'm': return SMOKE;
                default: return 0;
            }
        }

        private boolean take(int wanted) {
            if (token != wanted) {
                return refuse(CANNOT_STAND);
            }
            advance();
            return true;
        }

        private boolean takeNumber(int least, int most) {
            if (token != NUMBER) {
                return refuse(CANNOT_STAND);
            }
            if (!within(value, least, most)) {
                return refuse(WRONG_NUMBER);
            }
            taken = value;
            advance();
            return true;
        }

        private boolean refuse(int number) {
            faultNumber = number;
            faultPlace = place;
            return false;
        }

        private void advance() {
            place = behind;
            if (place >= size) {
                token = END;
            } else if (isFigure(bytes[place])) {
                advanceOverFigures();
            } else {
                int letter = bytes[place];
                boolean isToken = within(letter, 'a', 'z') || letter == ',' || letter == ';';
                token = isToken ? letter : NO_TOKEN;
                behind = place + 1;
            }
        }

        private void advanceOverFigures() {
            value = 0;
            int end = place;
            while (end < size && isFigure(bytes[end])) {
                // a run too long to be a number must not wrap around
                value = Math.min(value, 99) * 10 + bytes[end] - '0';
                end++;
            }
            token = end - place <= 2 ? NUMBER : NO_TOKEN;
            behind = end;
        }

        private static boolean isFigure(int letter) {
            return letter >= '0' && letter <= '9';
        }
    }

    /** What the shore was ahead of each act, in a ring. */
    private static final class Acts {
        private final Shore[] kept = new Shore[MOST_ACTS];
        private int oldest;
        int size;

        Acts() {
            for (int i = 0; i < MOST_ACTS; i++) {
                kept[i] = new Shore();
            }
        }

        void keep(Shore now) {
            kept[(oldest + size) % MOST_ACTS].become(now);
            if (size < MOST_ACTS) {
                size++;
            } else {
                oldest = (oldest + 1) % MOST_ACTS;
            }
        }

        boolean takeBack(Shore now) {
            if (size == 0) {
                return false;
            }
            size--;
            now.become(kept[(oldest + size) % MOST_ACTS]);
            return true;
        }

        void forgetAll() {
            size = 0;
        }
    }

    /** What would come, tried on a shore that nobody lives on. */
    private static final class Seer {
        private static final int MOST_TRIED_FISH = 30, AS_IT_IS = 64;
        private static final long FACTOR = 16807L, MODULUS = 2147483647L;

        private final Shore trial = new Shore();
        private final int[] dinners = new int[MOST_TOLD_DINNERS];
        private int dinnersTold;

        Walker walkAhead(Shore now, int person, int n) {
            trial.become(now);
            Walker one = trial.walkers[person];
            for (int i = 0; i < n; i++) {
                trial.liveDay(one);
            }
            return one;
        }

        int daysUntilOf(Shore now, int person, int gate) {
            trial.become(now);
            Walker one = trial.walkers[person];
            for (int n = 0; n <= FAR_AHEAD; n++) {
                if (bit(one.of, gate) == 1) {
                    return n;
                }
                trial.liveDay(one);
            }
            return NONE;
        }

        int hungryFirst(Shore now, int what) {
            trial.become(now);
            for (int n = 1; n <= FAR_AHEAD; n++) {
                for (int p = 0; p < trial.people; p++) {
                    trial.liveDay(trial.walkers[p]);
                    if (trial.walkers[p].hunger > now.walkers[p].hunger) {
                        return what == 0 ? p : n;
                    }
                }
            }
            return NONE;
        }

        int fewestTurned(Shore now, int person, int gate, int n) {
            int fewest = NONE;
            for (int set = 0; set < 1 << now.gates; set++) {
                if (isFewer(set, fewest) && isOfIfTurned(now, person, gate, n, set)) {
                    fewest = set;
                }
            }
            return fewest;
        }

        int fewestFallen(Shore now, int n) {
            int fewest = NONE;
            for (int set = 0; set < 1 << now.gates; set++) {
                if (isFewer(set, fewest) && (set & now.fallen) == 0 && areAllFedIfFallen(now, n, set)) {
                    fewest = set;
                }
            }
            return fewest;
        }

        void hearDinners(Row row, int from, int n) {
            dinnersTold = Math.min(n, MOST_TOLD_DINNERS);
            for (int i = 0; i < dinnersTold; i++) {
                dinners[i] = row.items[from + i];
            }
        }

        int kindsThatFit(Shore now, int gate, int person) {
            int fit = 0;
            for (int sort = JAW; sort <= SMOKE; sort++) {
                trial.become(now);
                trial.sorts[gate] = sort;
                fit |= isAsTold(person) ? 1 << sort : 0;
            }
            return fit;
        }

        int facingsThatFit(Shore now, int gate, int person) {
            int fit = 0;
            for (int facesOut = 0; facesOut <= 1; facesOut++) {
                trial.become(now);
                trial.facing = now.facing & ~(1 << gate) | facesOut << gate;
                fit |= isAsTold(person) ? 1 << facesOut : 0;
            }
            return fit;
        }

        int headingsThatFit(Shore now, int person) {
            int fit = 0;
            for (int heading = 0; heading <= 1; heading++) {
                trial.become(now);
                trial.walkers[person].heading = heading;
                fit |= isAsTold(person) ? 1 << heading : 0;
            }
            return fit;
        }

        int fishesThatFit(Shore now, int person) {
            int fit = 0;
            for (int fish = 0; fish <= MOST_TRIED_FISH; fish++) {
                trial.become(now);
                trial.walkers[person].fish = fish;
                fit |= isAsTold(person) ? 1 << fish : 0;
            }
            return fit;
        }

        int fallsThatFit(Shore now, int person) {
            trial.become(now);
            int fit = isAsTold(person) ? AS_IT_IS : 0;
            for (int gate = 0; gate < now.gates; gate++) {
                trial.become(now);
                trial.fallen |= 1 << gate;
                fit |= bit(now.fallen, gate) == 0 && isAsTold(person) ? 1 << gate : 0;
            }
            return fit;
        }

        long likelyFed(Shore now, int person, int n, int p, int what) {
            int standing = now.gates - Integer.bitCount(now.fallen);
            long above = 0;
            for (int set = 0; set < 1 << now.gates; set++) {
                if ((set & now.fallen) == 0) {
                    int falling = Integer.bitCount(set);
                    long cases = power(p, falling) * power(10 - p, standing - falling);
                    above += cases != 0 && isFedIfFallen(now, person, n, set) ? cases : 0;
                }
            }
            long below = power(10, standing);
            long common = commonDivisor(above, below);
            if (common == 0) {
                return NONE;
            }
            return what == 0 ? above / common : below / common;
        }

        int yearsDrawn(Shore now, int n, int seed, int what) {
            trial.become(now);
            long x = seed;
            for (int i = 0; i < n && trial.gates > 0; i++) {
                x = x * FACTOR % MODULUS;
                int gate = (int) (x % trial.gates);
                if (x % 3 == 0) {
                    trial.facing ^= 1 << gate;
                } else if (x % 5 == 0) {
                    trial.fallen ^= 1 << gate;
                }
                trial.passDay();
            }
            return what == 0 ? trial.hungerOfAll() - now.hungerOfAll() : trial.fishOfAll();
        }

        /** Of sets of one size the first stays, which is the least as they come. */
        private static boolean isFewer(int set, int fewest) {
            return fewest == NONE || Integer.bitCount(set) < Integer.bitCount(fewest);
        }

        private boolean isOfIfTurned(Shore now, int person, int gate, int n, int set) {
            trial.become(now);
            trial.facing ^= set;
            Walker one = trial.walkers[person];
            for (int i = 0; i < n; i++) {
                trial.liveDay(one);
            }
            return bit(one.of, gate) == 1;
        }

        private boolean areAllFedIfFallen(Shore now, int n, int set) {
            boolean areFed = true;
            for (int p = 0; p < now.people && areFed; p++) {
                areFed = isFedIfFallen(now, p, n, set);
            }
            return areFed;
        }

        private boolean isFedIfFallen(Shore now, int person, int n, int set) {
            trial.become(now);
            trial.fallen |= set;
            Walker one = trial.walkers[person];
            int before = one.hunger;
            for (int i = 0; i < n && one.hunger == before; i++) {
                trial.liveDay(one);
            }
            return one.hunger == before;
        }

        private boolean isAsTold(int person) {
            for (int i = 0; i < dinnersTold; i++) {
                int eats = trial.liveDay(trial.walkers[person]) ? 1 : 0;
                if (eats != dinners[i]) {
                    return false;
                }
            }
            return true;
        }

        private static long power(int base, int exponent) {
            long product = 1;
            for (int i = 0; i < exponent; i++) {
                product *= base;
            }
            return product;
        }

        private static long commonDivisor(long a, long b) {
            // of numbers up to a million Euclid's rests end far sooner than this bound
            for (int i = 0; i < 100 && b != 0; i++) {
                long rest = a % b;
                a = b;
                b = rest;
            }
            return a;
        }
    }

    /** Moves of one who has all the time there is: a state is where one is, whether inside, and of what. */
    private static final class Paths {
        private static final int INSIDE = 8, OF_SHIFT = 4, STATES = 64 << OF_SHIFT;
        private static final int MOVES = 3, UP = 1, DOWN = 2;
        private static final int FAR = STATES * 9;

        private final int[] hours = new int[STATES];
        private final int[] firstMoves = new int[STATES];
        private final int[] reached = new int[STATES];
        private int reachedCount;
        private int farthest;

        static int stateOf(Walker one) {
            return one.of << OF_SHIFT | (one.inside ? INSIDE : 0) | one.at;
        }

        private static int waysFrom(Shore shore, int state, int set, int movesLeft) {
            if (movesLeft <= 0) {
                return state >> OF_SHIFT == set ? 1 : 0;
            }
            int all = 0;
            for (int move = 0; move < MOVES; move++) {
                int next = behind(shore, state, move);
                all += next == NONE ? 0 : waysFrom(shore, next, set, movesLeft - 1);
            }
            return all;
        }

        /** Hour by hour, so that what is reached at an hour is final when that hour comes. */
        int fewestHours(Shore shore, Walker one, int set, int what) {
            begin(stateOf(one));
            for (int hour = 0; hour <= farthest && hour <= FAR; hour++) {
                boolean isThere = false;
                int firstMove = MOVES;
                for (int i = 0; i < reachedCount; i++) {
                    int state = reached[i];
                    if (hours[state] == hour && state >> OF_SHIFT == set) {
                        isThere = true;
                        firstMove = Math.min(firstMove, firstMoves[state]);
                    } else if (hours[state] == hour) {
                        goOnFrom(shore, state);
                    }
                }
                if (isThere) {
                    return what == 0 ? hour : firstMove;
                }
            }
            return NONE;
        }

        private void begin(int state) {
            for (int i = 0; i < STATES; i++) {
                hours[i] = NONE;
            }
            hours[state] = 0;
            firstMoves[state] = NONE;
            reached[0] = state;
            reachedCount = 1;
            farthest = 0;
        }

        private void goOnFrom(Shore shore, int state) {
            for (int move = 0; move < MOVES; move++) {
                int next = behind(shore, state, move);
                if (next != NONE) {
                    int firstMove = firstMoves[state] == NONE ? move : firstMoves[state];
                    reach(next, hours[state] + hoursOf(shore, state, move), firstMove);
                }
            }
        }

        private void reach(int state, int hour, int firstMove) {
            if (hours[state] == NONE && reachedCount < STATES) {
                reached[reachedCount] = state;
                reachedCount++;
            }
            if (hours[state] == NONE || hour < hours[state]) {
                hours[state] = hour;
                firstMoves[state] = firstMove;
                farthest = Math.max(farthest, hour);
            } else if (hour == hours[state]) {
                firstMoves[state] = Math.min(firstMoves[state], firstMove);
            }
        }

        /** The state behind a move; NONE: it cannot be made. */
        private static int behind(Shore shore, int state, int move) {
            int at = state & INSIDE - 1;
            boolean isInside = (state & INSIDE) != 0;
            if (move == 0) {
                int of = shore.ofBehind(at, !isInside, state >> OF_SHIFT);
                return of << OF_SHIFT | (isInside ? 0 : INSIDE) | at;
            }
            int next = move == UP ? at + 1 : at - 1;
            return isInside || !shore.hasGate(next) ? NONE : state - at + next;
        }

        private static int hoursOf(Shore shore, int state, int move) {
            int at = state & INSIDE - 1;
            if (move == DOWN && at > 0) {
                return shore.lengths[at - 1];
            }
            return move == UP ? shore.lengths[at] : 1;
        }
    }

    /** Asks of gates, by numbered bodies. */
    private static final class Asks {
        // by kind: the body that begins, and the kinds (bits) that one of it is
        private static final int[] SIZE_BODIES = {10, 11, 12, 11, 13, 14};
        private static final int[] MARK_BODIES = {20, 21, 24, 22, 23, 23};
        private static final int[] KINDS_IT_IS = {1, 3, 7, 11, 17, 49};
        private static final int DEEPEST = 12;

        final int[] traced = new int[MOST_TRACED];
        int traceSize;

        static boolean isKind(int sort, int asked) {
            return within(sort, 0, SMOKE) && bit(KINDS_IT_IS[sort], asked) == 1;
        }

        int answer(Shore shore, int gate, int what) {
            traceSize = 0;
            int sort = shore.sorts[gate];
            return runBody(shore, gate, what == 0 ? SIZE_BODIES[sort] : MARK_BODIES[sort], 0);
        }

        private int runBody(Shore shore, int gate, int body, int depth) {
            if (depth > DEEPEST) {
                return 0;
            }
            leaveTrace(body);
            int deeper = depth + 1;
            int sort = shore.sorts[gate];
            switch (body) {
                case 10: return shore.lengths[gate];
                case 11: return runBody(shore, gate, 10, deeper) + runBody(shore, gate, MARK_BODIES[sort], deeper);
                case 12: return -runBody(shore, gate, 11, deeper);
                case 13: return runBody(shore, gate, 10, deeper) - 100;
                case 14: return runBody(shore, gate, 13, deeper) * 2;
                case 20: return gate;
                case 21: return runBody(shore, gate, 20, deeper) + Integer.bitCount(shore.whoIsOf(gate));
                case 22: return runBody(shore, gate, 21, deeper) - 1000;
                case 23: return runBody(shore, gate, 20, deeper) - runBody(shore, gate, SIZE_BODIES[sort], deeper);
                case 24: return runBody(shore, gate, 21, deeper) * 2;
                default: return 0;
            }
        }

        private void leaveTrace(int body) {
            if (traceSize < MOST_TRACED) {
                traced[traceSize] = body;
                traceSize++;
            }
        }
    }
}
