/** A hoop about the waist: see README.md, and the document whose promises it keeps. */
public final class HoopWaist {
    public static final int BAD = -1, NOT = -2, FULL = -3, STATE = -5, VOID = -2000000000;

    private static final int NOTHING_THERE = -11, OTHER_KIND = -12, NO_PLACE = -13, BELOW_ZERO = -14;
    private static final int PLACES = 24, FORE = 0, BACK = 12;
    private static final int MOST_HOOPS = 5, MOST_PACE = 9, MOST_HIGH = 20, FIRST_PACE = 4;
    private static final int MOST_TICKS = 200, RESCUE_TICKS = 100, MOST_MISTAKE = 40;
    private static final int LEAST_BEAT = 2, MOST_BEAT = 24, MOST_STRENGTH = 5, MOST_RUB = 3;
    private static final int GIRLS = 25, SIDE = 5, DRAWS = 12, MOST_MINUTES = 30;
    private static final int MOST_LEARNT = 99, MOST_ALONE = 8;
    private static final int SHELVES = 6, MOST_ELEMENTS = 60;
    private static final int KINDS = 8, ACTS = 4, MOST_BODIES = 50, MOST_TRACE = 24;
    private static final int SIZE = 0, HEAVY = 1, PACE = 2, RUB = 3, BEAT = 4, PHASE = 5, STRENGTH = 6, KNOCK = 7;

    private final Law law;
    private final Reader reader;
    private final Ring ring;
    private final Ring kept;
    private final Thought thought;
    private final Field field;
    private final Changes changes;
    private final Turns turns;
    private final Shelf[] shelves;
    private boolean hasImage;

    public HoopWaist() {
        law = new Law();
        reader = new Reader();
        ring = new Ring(law);
        kept = new Ring(law);
        thought = new Thought(ring, new Ring(law));
        field = new Field();
        changes = new Changes();
        turns = new Turns();
        shelves = new Shelf[SHELVES];
        for (int i = 0; i < SHELVES; i++) {
            shelves[i] = new Shelf();
        }
        hasImage = false;
    }

    // ---- hoops, pushes

    public int hoop(int sh) {
        if (sh < 0 || !isWeight(sh / 10) || !isWeight(sh % 10)) {
            return BAD;
        }
        if (ring.isFull()) {
            return FULL;
        }
        return ring.addHoop(sh / 10, sh % 10, FIRST_PACE);
    }

    public int hoops(int shelf, int i, int n) {
        if (!isShelf(shelf) || n < 1 || n > MOST_HOOPS) {
            return BAD;
        }
        Shelf from = shelves[shelf];
        if (!from.isEmpty() && !from.hasBytes()) {
            return OTHER_KIND;
        }
        int came = 0;
        while (came < n && hoopCame(from, i + 3 * came)) {
            came++;
        }
        return came;
    }

    public int mend(int number, int what, int v) {
        if (!canBecome(number, what, v)) {
            return VOID;
        }
        int was = valueOf(number, what);
        if (was != v) {
            lay(number, what, v);
            changes.note(number, what, was, v);
        }
        return was;
    }

    public int of(int number, int what) {
        if (what >= 0 && what <= 5) {
            return ring.has(number) ? ring.hoops[number].told(what) : VOID;
        }
        if (what >= 10 && what <= 15) {
            return number == 0 ? settingOf(what) : VOID;
        }
        if ((what == 20 || what == 21) && isGirl(number)) {
            return what == 20 ? field.skills[number] : field.minutes[number];
        }
        return VOID;
    }

    public int feed(int letter) {
        if (letter < 0 || letter > 255) {
            return BAD;
        }
        return reader.takeIn(letter) ? reader.length : FULL;
    }

    public int law() {
        int fault = reader.readText();
        reader.length = 0;
        if (fault >= 0) {
            return -100 - fault;
        }
        law.copy(reader.draft);
        return 1;
    }

    public int go(int n) {
        if (n < 1 || n > MOST_TICKS) {
            return BAD;
        }
        for (int k = 0; k < n; k++) {
            ring.tick();
        }
        return ring.upright();
    }

    public int lift(int hoop) {
        if (!ring.has(hoop)) {
            return BAD;
        }
        if (!ring.hoops[hoop].lies()) {
            return STATE;
        }
        ring.hoops[hoop].raise();
        return hoop;
    }

    public int led(int what) {
        if (what == 0) {
            return ring.pushes;
        }
        return what == 1 ? ring.latestFall : BAD;
    }

    // ---- in thought

    public int then(int hoop, int k, int what) {
        if (!ring.has(hoop) || k < 0 || k > MOST_TICKS || what < 0 || what > 2) {
            return VOID;
        }
        Hoop seen = thought.behind(hoop, k);
        if (what == 0) {
            return seen.place;
        }
        return what == 1 ? seen.pace : seen.high;
    }

    public int falls(int hoop) {
        if (!ring.has(hoop)) {
            return BAD;
        }
        thought.begin();
        return thought.fallOf(hoop);
    }

    public int lasts() {
        thought.begin();
        return thought.lasting();
    }

    public int beatFor(int what) {
        if (what < 0 || what > 1) {
            return BAD;
        }
        int best = -1;
        int which = 0;
        for (int beat = LEAST_BEAT; beat <= MOST_BEAT && best < MOST_TICKS; beat++) {
            for (int phase = 0; phase < beat && best < MOST_TICKS; phase++) {
                thought.begin();
                thought.ring.beat = beat;
                thought.ring.phase = phase;
                int lasting = thought.lasting();
                if (lasting > best) {
                    best = lasting;
                    which = 100 * beat + phase;
                }
            }
        }
        return what == 0 ? which : best;
    }

    public int leastPush(int n) {
        if (n < 1 || n > MOST_TICKS) {
            return BAD;
        }
        for (int strength = 0; strength <= MOST_STRENGTH; strength++) {
            thought.begin();
            thought.ring.strength = strength;
            if (thought.lasting() >= n) {
                return strength;
            }
        }
        return NOT;
    }

    public int mistake(int m, int what) {
        if (m < 0 || m > MOST_MISTAKE || what < 0 || what > 1) {
            return BAD;
        }
        thought.begin();
        thought.leaveOut(m);
        return what == 0 ? thought.lasting() : thought.caughtAgain();
    }

    public int held(int n) {
        if (n < 1 || n > MOST_TICKS) {
            return BAD;
        }
        int best = NOT;
        int most = 0;
        for (int bits = 1; bits < 1 << ring.count; bits++) {
            if (Integer.bitCount(bits) > most && ring.allUp(bits)) {
                thought.begin();
                thought.ring.layAllBut(bits);
                if (thought.lasting() >= n) {
                    best = bits;
                    most = Integer.bitCount(bits);
                }
            }
        }
        return best;
    }

    public int rescue(int hoop, int fp) {
        int strength = fp / 100;
        int goal = fp % 100;
        if (!ring.has(hoop) || strength < 1 || strength > MOST_STRENGTH || goal < 0 || goal >= PLACES) {
            return BAD;
        }
        thought.begin();
        int fall = thought.fallOf(hoop);
        if (fall == 0 || fall == NOT) {
            return STATE;
        }
        // A push behind the fall comes too late, so that only the ticks ahead of it are tried.
        int ticks = Math.min(RESCUE_TICKS, fall);
        for (int k = 0; k < ticks; k++) {
            thought.begin();
            thought.addPush(k, strength, goal);
            if (thought.isUpBehind(hoop, fall)) {
                return k;
            }
        }
        return NOT;
    }

    public int start(int hoop) {
        if (!ring.has(hoop)) {
            return VOID;
        }
        if (ring.hoops[hoop].lies()) {
            return STATE;
        }
        int best = -MOST_PACE;
        int latest = -1;
        for (int pace = -MOST_PACE; pace <= MOST_PACE; pace++) {
            thought.begin();
            thought.ring.hoops[hoop].pace = pace;
            int fall = thought.fallOf(hoop);
            int late = fall == NOT ? MOST_TICKS + 1 : fall;
            if (late > latest) {
                latest = late;
                best = pace;
            }
        }
        return best;
    }

    // ---- music, films

    public int music(int shelf) {
        if (!isShelf(shelf)) {
            return BAD;
        }
        int refusal = shelves[shelf].bytesRefusal();
        if (refusal != 0) {
            return refusal;
        }
        thought.begin();
        return thought.lastingBy(shelves[shelf]);
    }

    public int judge(int shelf, int hoop) {
        if (!isShelf(shelf) || !ring.has(hoop)) {
            return BAD;
        }
        int refusal = shelves[shelf].bytesRefusal();
        if (refusal != 0) {
            return refusal;
        }
        thought.begin();
        return thought.firstUnlike(shelves[shelf], hoop);
    }

    public int begun(int shelf, int hoop, int what) {
        if (!isShelf(shelf) || !ring.has(hoop) || what < 0 || what > 1 || !shelves[shelf].hasBytes()) {
            return VOID;
        }
        int most = ring.hoops[hoop].lies() ? 0 : MOST_PACE;
        int fitting = 0;
        int first = NOT;
        for (int pace = -most; pace <= most; pace++) {
            thought.begin();
            thought.ring.hoops[hoop].pace = pace;
            if (thought.firstUnlike(shelves[shelf], hoop) == NOT) {
                first = fitting == 0 ? pace : first;
                fitting++;
            }
        }
        return what == 0 ? fitting : first;
    }

    // ---- a field

    public int skill(int girl, int v) {
        if (!isGirl(girl) || !isSkill(v)) {
            return BAD;
        }
        int was = field.skills[girl];
        field.becomes(girl, v);
        return was;
    }

    public int left(int seed, int n, int girl) {
        if (!isMinutes(n) || girl != -1 && !isGirl(girl)) {
            return BAD;
        }
        field.play(seed, n);
        if (girl == -1) {
            return field.howManyUp();
        }
        return field.up[girl] ? 1 : 0;
    }

    public int knocked(int seed, int n, int girl) {
        if (!isMinutes(n) || !isGirl(girl)) {
            return BAD;
        }
        field.play(seed, n);
        return field.knocker[girl];
    }

    public int last(int seed, int what) {
        if (what < 0 || what > 1) {
            return BAD;
        }
        field.play(seed, MOST_MINUTES);
        int girl = field.longest();
        return what == 0 ? girl : field.dropMinute[girl];
    }

    public long alone(int girl, int y, int part) {
        if (!isGirl(girl) || y < 0 || y > MOST_ALONE || part < 0 || part > 1) {
            return Long.MIN_VALUE;
        }
        int skill = field.skills[girl];
        int shared = greatestDivisor(skill, DRAWS);
        int base = (part == 0 ? skill : DRAWS) / Math.max(1, shared);
        long power = 1;
        for (int i = 0; i < y; i++) {
            power *= base;
        }
        return power;
    }

    public int learn(int girl, int n) {
        if (!isGirl(girl) || n < 1 || n > MOST_LEARNT) {
            return BAD;
        }
        for (int i = 0; i < n; i++) {
            field.learnMinute(girl);
        }
        return field.skills[girl];
    }

    public int till(int girl, int v) {
        if (!isGirl(girl) || !isSkill(v)) {
            return BAD;
        }
        if (field.skills[girl] >= v) {
            return 0;
        }
        int minutes = -field.minutes[girl];
        for (int skill = field.skills[girl]; skill < v; skill++) {
            minutes += Field.minutesAt(skill);
        }
        return minutes;
    }

    public int image() {
        kept.copy(ring);
        hasImage = true;
        return ring.now;
    }

    public int back() {
        if (!hasImage) {
            return STATE;
        }
        ring.layBack(kept);
        return ring.now;
    }

    public int undo() {
        if (changes.undoable == 0) {
            return STATE;
        }
        changes.undoable--;
        int i = changes.undoable;
        lay(changes.number[i], changes.what[i], changes.was[i]);
        return changes.undoable;
    }

    public int redo() {
        if (changes.undoable == changes.noted) {
            return STATE;
        }
        int i = changes.undoable;
        changes.undoable++;
        lay(changes.number[i], changes.what[i], changes.became[i]);
        return changes.noted - changes.undoable;
    }

    // ---- acts, shelves

    public int body(int kind) {
        if (!isKind(kind)) {
            return BAD;
        }
        return turns.isFull() ? FULL : turns.addBody(kind);
    }

    public int act(int body, int act, int x) {
        turns.ran = 0;
        if (!turns.has(body) || act < 0 || act >= ACTS) {
            return 0;
        }
        return turns.perform(body, act, x);
    }

    public int trace(int i) {
        if (i < 0 || i >= turns.ran || i >= MOST_TRACE) {
            return BAD;
        }
        return turns.traced[i];
    }

    public int keep(int shelf, int body) {
        if (!isShelf(shelf) || body != -1 && !turns.has(body)) {
            return BAD;
        }
        if (body == -1) {
            shelves[shelf].holdNothing();
        } else {
            shelves[shelf].holdTurn(body);
        }
        return 1;
    }

    public int row(int shelf, int sort, int n) {
        if (!isShelf(shelf) || !Shelf.isSort(sort) || n > MOST_ELEMENTS) {
            return BAD;
        }
        if (n < 0) {
            return BELOW_ZERO;
        }
        shelves[shelf].holdRow(sort, n);
        return 1;
    }

    public int put(int shelf, int i, long v) {
        if (!isShelf(shelf)) {
            return BAD;
        }
        int refusal = shelves[shelf].placeRefusal(i);
        if (refusal != 0) {
            return refusal;
        }
        shelves[shelf].lay(i, v);
        return 1;
    }

    public long element(int shelf, int i) {
        if (!isShelf(shelf) || shelves[shelf].placeRefusal(i) != 0) {
            return Long.MIN_VALUE;
        }
        return shelves[shelf].elements[i];
    }

    public int shift(int shelf, int i, int other, int j, int n) {
        if (!isShelf(shelf) || !isShelf(other)) {
            return BAD;
        }
        Shelf from = shelves[shelf];
        Shelf to = shelves[other];
        if (from.isEmpty() || to.isEmpty()) {
            return NOTHING_THERE;
        }
        if (!from.isRow() || !to.isRow() || from.sort != to.sort) {
            return OTHER_KIND;
        }
        if (!from.hasStretch(i, n) || !to.hasStretch(j, n)) {
            return NO_PLACE;
        }
        System.arraycopy(from.elements, i, to.elements, j, n);
        return n;
    }

    public int taken(int shelf, int k) {
        if (!isShelf(shelf) || !isKind(k)) {
            return BAD;
        }
        Shelf from = shelves[shelf];
        if (from.isEmpty()) {
            return NOTHING_THERE;
        }
        if (!from.isTurn() || !turns.has(from.turn)) {
            return OTHER_KIND;
        }
        int kind = turns.kinds[from.turn];
        return Turns.isUnder(kind, k) ? kind : OTHER_KIND;
    }

    public int count(int what) {
        switch (what) {
            case 0: return ring.count;
            case 1: return ring.upright();
            case 2: return reader.length;
            case 3: return changes.undoable;
            case 4: return turns.bodies;
            case 5: return turns.ran;
            default: return BAD;
        }
    }

    // ---- what the calls share

    private static boolean isWeight(int v) {
        return v >= 1 && v <= 9;
    }

    private static boolean isPace(int v) {
        return v >= -MOST_PACE && v <= MOST_PACE;
    }

    private static boolean isShelf(int shelf) {
        return shelf >= 0 && shelf < SHELVES;
    }

    private static boolean isGirl(int girl) {
        return girl >= 0 && girl < GIRLS;
    }

    private static boolean isSkill(int v) {
        return v >= 0 && v <= DRAWS;
    }

    private static boolean isMinutes(int n) {
        return n >= 1 && n <= MOST_MINUTES;
    }

    private static boolean isKind(int kind) {
        return kind >= 0 && kind < KINDS;
    }

    /** What is left of a by b; 0 if b is 0. */
    private static int rest(int a, int b) {
        return b == 0 ? 0 : a % b;
    }

    /** Where the i-th push (0 on) goes: fore and back in turn. */
    private static int goalOf(int i) {
        return i % 2 == 0 ? FORE : BACK;
    }

    private static int within(int v, int least, int most) {
        return Math.max(least, Math.min(most, v));
    }

    private static int greatestDivisor(int a, int b) {
        int divisor = 1;
        for (int d = 2; d <= b; d++) {
            if (rest(a, d) == 0 && rest(b, d) == 0) {
                divisor = d;
            }
        }
        return divisor;
    }

    private boolean hoopCame(Shelf from, int at) {
        if (at < 0 || at > from.length - 3 || at > MOST_ELEMENTS - 3 || ring.isFull()) {
            return false;
        }
        int size = (int) from.elements[at];
        int heavy = (int) from.elements[at + 1];
        int pace = (int) from.elements[at + 2];
        if (!isWeight(size) || !isWeight(heavy) || !isPace(pace)) {
            return false;
        }
        ring.addHoop(size, heavy, pace);
        return true;
    }

    private boolean canBecome(int number, int what, int v) {
        if (what >= SIZE && what <= PACE) {
            return ring.has(number) && hoopCanBecome(ring.hoops[number], what, v);
        }
        return number == 0 && settingCanBecome(what, v);
    }

    private static boolean hoopCanBecome(Hoop hoop, int what, int v) {
        if (what != PACE) {
            return isWeight(v);
        }
        return hoop.lies() ? v == 0 : isPace(v);
    }

    private boolean settingCanBecome(int what, int v) {
        switch (what) {
            case RUB: return v >= 0 && v <= MOST_RUB;
            case BEAT: return v >= LEAST_BEAT && v <= MOST_BEAT;
            case PHASE: return v >= 0 && v < ring.beat;
            case STRENGTH: return v >= 0 && v <= MOST_STRENGTH;
            case KNOCK: return isSkill(v);
            default: return false;
        }
    }

    private int valueOf(int number, int what) {
        if (what <= PACE) {
            return ring.has(number) ? ring.hoops[number].told(what) : VOID;
        }
        return settingOf(what + 7);
    }

    private int settingOf(int what) {
        switch (what) {
            case 10: return ring.rub;
            case 11: return ring.beat;
            case 12: return ring.phase;
            case 13: return ring.strength;
            case 14: return field.knock;
            case 15: return ring.now;
            default: return VOID;
        }
    }

    private void lay(int number, int what, int v) {
        switch (what) {
            case RUB: ring.rub = v; break;
            case BEAT: ring.beat = v; break;
            case PHASE: ring.phase = v; break;
            case STRENGTH: ring.strength = v; break;
            case KNOCK: field.knock = v; break;
            default:
                if (ring.has(number)) {
                    ring.hoops[number].become(what, v);
                }
        }
    }

    // ---- a hoop

    private static final class Hoop {
        int size;
        int heavy;
        int place;
        int pace;
        int high;

        Hoop() {
            size = 1;
            heavy = 1;
        }

        void copy(Hoop other) {
            size = other.size;
            heavy = other.heavy;
            copyWay(other);
        }

        void copyWay(Hoop other) {
            place = other.place;
            pace = other.pace;
            high = other.high;
        }

        void raise() {
            place = 0;
            pace = FIRST_PACE;
            high = MOST_HIGH;
        }

        void drop() {
            pace = 0;
            high = 0;
        }

        boolean lies() {
            return high == 0;
        }

        int need() {
            return (10 - size) / 2 + 1;
        }

        int speed() {
            return Math.abs(pace);
        }

        int told(int what) {
            switch (what) {
                case SIZE: return size;
                case HEAVY: return heavy;
                case PACE: return pace;
                case 3: return place;
                case 4: return high;
                case 5: return need();
                default: return VOID;
            }
        }

        void become(int what, int v) {
            switch (what) {
                case SIZE: size = v; break;
                case HEAVY: heavy = v; break;
                case PACE: pace = lies() ? 0 : v; break;
                default: break;
            }
        }

        int farFrom(int goal) {
            int way = Math.floorMod(place - goal, PLACES);
            return Math.min(way, PLACES - way);
        }

        /** Its sign stays; a pace of 0 goes on as a positive one. */
        void quicken(int by) {
            int speed = within(speed() + by, 0, MOST_PACE);
            pace = pace < 0 ? -speed : speed;
        }

        void move() {
            place = Math.floorMod(place + pace, PLACES);
        }

        /** Whether it fell just now. */
        boolean sankToLie() {
            if (lies()) {
                return false;
            }
            high = speed() >= need() ? Math.min(MOST_HIGH, high + 1) : Math.max(0, high - 2);
            if (lies()) {
                pace = 0;
            }
            return lies();
        }
    }

    // ---- the ring

    private static final class Ring {
        final Law law;
        final Hoop[] hoops;
        int count;
        int now;
        int rub;
        int beat;
        int phase;
        int strength;
        int pushes;
        int latestFall;

        Ring(Law law) {
            this.law = law;
            hoops = new Hoop[MOST_HOOPS];
            for (int i = 0; i < MOST_HOOPS; i++) {
                hoops[i] = new Hoop();
            }
            rub = 1;
            beat = 6;
            strength = 2;
            latestFall = NOT;
        }

        void copy(Ring other) {
            for (int i = 0; i < other.count; i++) {
                hoops[i].copy(other.hoops[i]);
            }
            count = other.count;
            now = other.now;
            rub = other.rub;
            beat = other.beat;
            phase = other.phase;
            strength = other.strength;
            pushes = other.pushes;
            latestFall = other.latestFall;
        }

        void layBack(Ring other) {
            for (int i = 0; i < other.count && i < count; i++) {
                hoops[i].copyWay(other.hoops[i]);
            }
            now = other.now;
            pushes = other.pushes;
            latestFall = other.latestFall;
        }

        boolean has(int hoop) {
            return hoop >= 0 && hoop < count;
        }

        boolean isFull() {
            return count >= MOST_HOOPS;
        }

        int addHoop(int size, int heavy, int pace) {
            if (isFull()) {
                return FULL;
            }
            Hoop hoop = hoops[count];
            hoop.size = size;
            hoop.heavy = heavy;
            hoop.raise();
            hoop.pace = pace;
            count++;
            return count - 1;
        }

        int upright() {
            int up = 0;
            for (int i = 0; i < count; i++) {
                if (!hoops[i].lies()) {
                    up++;
                }
            }
            return up;
        }

        boolean allUp(int bits) {
            for (int i = 0; i < count; i++) {
                if ((bits >> i & 1) == 1 && hoops[i].lies()) {
                    return false;
                }
            }
            return true;
        }

        boolean allHighest() {
            for (int i = 0; i < count; i++) {
                if (hoops[i].high < MOST_HIGH) {
                    return false;
                }
            }
            return true;
        }

        void layAllBut(int bits) {
            for (int i = 0; i < count; i++) {
                if ((bits >> i & 1) == 0) {
                    hoops[i].drop();
                }
            }
        }

        boolean isPushDue() {
            return rest(now, beat) == rest(phase, beat);
        }

        /** Fore and back are told by how many beats went by, so that a left out push changes no later one. */
        int goalInTurn() {
            return goalOf(beat == 0 ? 0 : now / beat);
        }

        void tick() {
            if (isPushDue()) {
                push(strength, goalInTurn());
                pushes++;
            }
            settle();
        }

        void push(int force, int goal) {
            for (int i = 0; i < count; i++) {
                if (!hoops[i].lies()) {
                    hoops[i].quicken(law.more(hoops[i], goal, force));
                }
            }
        }

        /** What a tick does behind its pushes. */
        void settle() {
            for (int i = 0; i < count; i++) {
                if (rest(now + 1, hoops[i].heavy) == 0) {
                    hoops[i].quicken(-rub);
                }
                hoops[i].move();
            }
            cross();
            for (int i = 0; i < count; i++) {
                if (hoops[i].sankToLie()) {
                    latestFall = now;
                }
            }
            now++;
        }

        private void cross() {
            for (int i = 0; i < count; i++) {
                for (int j = i + 1; j < count; j++) {
                    if (areCrossed(hoops[i], hoops[j])) {
                        hoops[i].quicken(-1);
                        hoops[j].quicken(-1);
                    }
                }
            }
        }

        private static boolean areCrossed(Hoop a, Hoop b) {
            return !a.lies() && !b.lies() && a.place == b.place;
        }
    }

    // ---- thought

    /** Ticks on a copy of the ring: begin, change the copy, then ask one question. */
    private static final class Thought {
        final Ring real;
        final Ring ring;
        int ticks;
        int pushesSeen;
        int leftOut;
        int moreTick;
        int moreForce;
        int moreGoal;

        Thought(Ring real, Ring ring) {
            this.real = real;
            this.ring = ring;
        }

        void begin() {
            ring.copy(real);
            ticks = 0;
            pushesSeen = 0;
            leftOut = -1;
            moreTick = -1;
        }

        void leaveOut(int m) {
            leftOut = m;
        }

        void addPush(int tick, int force, int goal) {
            moreTick = tick;
            moreForce = force;
            moreGoal = goal;
        }

        private void step() {
            if (ring.isPushDue()) {
                if (pushesSeen != leftOut) {
                    ring.push(ring.strength, ring.goalInTurn());
                }
                pushesSeen++;
            }
            if (ticks == moreTick) {
                ring.push(moreForce, moreGoal);
            }
            ring.settle();
            ticks++;
        }

        Hoop behind(int hoop, int k) {
            begin();
            for (int i = 0; i < k; i++) {
                step();
            }
            return ring.hoops[hoop];
        }

        int fallOf(int hoop) {
            for (int k = 0; k <= MOST_TICKS; k++) {
                if (ring.hoops[hoop].lies()) {
                    return k;
                }
                step();
            }
            return NOT;
        }

        boolean isUpBehind(int hoop, int k) {
            for (int i = 0; i < k && !ring.hoops[hoop].lies(); i++) {
                step();
            }
            return !ring.hoops[hoop].lies();
        }

        int lasting() {
            int up = ring.upright();
            for (int k = 0; k < MOST_TICKS; k++) {
                step();
                if (ring.upright() < up) {
                    return k;
                }
            }
            return MOST_TICKS;
        }

        int caughtAgain() {
            boolean wasBelow = false;
            for (int k = 0; k <= MOST_TICKS; k++) {
                boolean highest = ring.allHighest();
                if (highest && wasBelow) {
                    return k;
                }
                wasBelow = !highest || wasBelow;
                step();
            }
            return wasBelow ? NOT : 0;
        }

        int lastingBy(Shelf music) {
            int up = ring.upright();
            int next = 0;
            int due = music.gapAt(0);
            for (int k = 0; k < MOST_TICKS; k++) {
                if (k == due) {
                    ring.push(ring.strength, goalOf(next));
                    next++;
                    due = music.gapAt(next) < 0 ? -1 : k + music.gapAt(next);
                }
                ring.settle();
                if (ring.upright() < up) {
                    return k;
                }
            }
            return MOST_TICKS;
        }

        int firstUnlike(Shelf film, int hoop) {
            for (int i = 0; i < film.length && i < MOST_ELEMENTS; i++) {
                step();
                if (ring.hoops[hoop].place != film.elements[i]) {
                    return i;
                }
            }
            return NOT;
        }
    }

    // ---- the law

    /** Signs in the order in which a stack works them out; none are there as long as no text was told. */
    private static final class Law {
        static final int NUMBER = 0, NAME = 1, TEST = 2, END = 3, NO = 4, NEGATIVE = 5;
        static final int MOST = 128, NAMES = 6;

        final int[] signs;
        final int[] values;
        final int[] stack;
        final int[] names;
        int length;
        int top;

        Law() {
            signs = new int[MOST];
            values = new int[MOST];
            stack = new int[MOST];
            names = new int[NAMES];
        }

        void copy(Law other) {
            length = other.length;
            System.arraycopy(other.signs, 0, signs, 0, MOST);
            System.arraycopy(other.values, 0, values, 0, MOST);
        }

        /** The place of the sign. */
        int add(int sign, int value) {
            if (length >= MOST) {
                return MOST - 1;
            }
            signs[length] = sign;
            values[length] = value;
            length++;
            return length - 1;
        }

        /** By how much a hoop's pace, without its sign, is more. */
        int more(Hoop hoop, int goal, int force) {
            int far = hoop.farFrom(goal);
            if (length == 0) {
                return withoutText(far, force);
            }
            names[0] = far;
            names[1] = hoop.speed();
            names[2] = hoop.size;
            names[3] = hoop.heavy;
            names[4] = force;
            names[5] = hoop.high;
            return within(worth(), -MOST_PACE, MOST_PACE);
        }

        private static int withoutText(int far, int force) {
            if (far <= 2) {
                return force;
            }
            return far >= 10 ? -1 : 0;
        }

        private int worth() {
            top = 0;
            for (int i = 0; i < length; i++) {
                int value = values[i];
                switch (signs[i]) {
                    case NUMBER: pile(value); break;
                    case NAME: pile(names[within(value, 0, NAMES - 1)]); break;
                    case NO: pile(unpile() == 0 ? 1 : 0); break;
                    case NEGATIVE: pile(-unpile()); break;
                    case END: return unpile();
                    case TEST:
                        if (unpile() == 0) {
                            i = Math.max(i, value);
                        }
                        break;
                    default:
                        int behind = unpile();
                        pile(joined(signs[i], unpile(), behind));
                }
            }
            return 0;
        }

        private void pile(int value) {
            if (top >= 0 && top < MOST) {
                stack[top] = value;
                top++;
            }
        }

        private int unpile() {
            if (top <= 0 || top > MOST) {
                return 0;
            }
            top--;
            return stack[top];
        }

        /** Signs between two parts are kept as their bytes. */
        private static int joined(int sign, int a, int b) {
            switch (sign) {
                case '|': return a != 0 || b != 0 ? 1 : 0;
                case '&': return a != 0 && b != 0 ? 1 : 0;
                case '<': return a < b ? 1 : 0;
                case '=': return a == b ? 1 : 0;
                case '>': return a > b ? 1 : 0;
                case '+': return a + b;
                case '-': return a - b;
                case '*': return a * b;
                case '/': return b == 0 ? 0 : a / b;
                case '%': return b == 0 ? 0 : a % b;
                default: return 0;
            }
        }
    }

    /** Reads the tape as a text; where it gets stuck is the fault. */
    private static final class Reader {
        static final int MOST = 120, MOST_OPEN = 6, MOST_DIGITS = 4;
        static final int COMPARED = 2, OPERAND = 5;
        static final int END_OF_TAPE = -1;

        final int[] tape;
        final Law draft;
        int length;
        int at;
        boolean stuck;

        Reader() {
            tape = new int[MOST];
            draft = new Law();
        }

        boolean takeIn(int letter) {
            if (length >= MOST) {
                return false;
            }
            tape[length] = letter;
            length++;
            return true;
        }

        /** The fault, or -1: there is none. */
        int readText() {
            at = 0;
            stuck = false;
            draft.length = 0;
            boolean more = true;
            for (int lines = 0; more && lines <= MOST; lines++) {
                readLine();
                more = takes(';');
            }
            return stuck || at < length ? at : -1;
        }

        private void readLine() {
            readChain(0, 0);
            int test = -1;
            if (takes('?')) {
                test = draft.add(Law.TEST, 0);
                readChain(0, 0);
            }
            int end = draft.add(Law.END, 0);
            if (test >= 0) {
                draft.values[test] = end;
            }
        }

        /** Parts of the next level joined by this level's signs; open: how many of ( ! - are open here. */
        private void readChain(int level, int open) {
            if (level >= OPERAND) {
                readOperand(open);
                return;
            }
            readChain(level + 1, open);
            boolean more = isJoin(level);
            for (int i = 0; more && i < MOST; i++) {
                int sign = next();
                at++;
                readChain(level + 1, open);
                draft.add(sign, 0);
                more = level != COMPARED && isJoin(level);
            }
        }

        private boolean isJoin(int level) {
            int sign = stuck ? END_OF_TAPE : next();
            switch (level) {
                case 0: return sign == '|';
                case 1: return sign == '&';
                case COMPARED: return sign == '<' || sign == '=' || sign == '>';
                case 3: return sign == '+' || sign == '-';
                case 4: return sign == '*' || sign == '/' || sign == '%';
                default: return false;
            }
        }

        private void readOperand(int open) {
            int sign = next();
            if (isDigit(sign)) {
                readNumber();
            } else if (nameOf(sign) >= 0) {
                draft.add(Law.NAME, nameOf(sign));
                at++;
            } else if (open < MOST_OPEN && (sign == '(' || sign == '!' || sign == '-')) {
                at++;
                readOpened(sign, open + 1);
            } else {
                stuck = true;
            }
        }

        private void readOpened(int sign, int open) {
            if (sign == '(') {
                readChain(0, open);
                if (!takes(')')) {
                    stuck = true;
                }
            } else {
                readOperand(open);
                draft.add(sign == '!' ? Law.NO : Law.NEGATIVE, 0);
            }
        }

        private void readNumber() {
            int value = 0;
            for (int i = 0; i < MOST_DIGITS && isDigit(next()); i++) {
                value = 10 * value + next() - '0';
                at++;
            }
            draft.add(Law.NUMBER, value);
        }

        private int next() {
            return at >= 0 && at < length && at < MOST ? tape[at] : END_OF_TAPE;
        }

        private boolean takes(int sign) {
            if (stuck || next() != sign) {
                return false;
            }
            at++;
            return true;
        }

        private static boolean isDigit(int sign) {
            return sign >= '0' && sign <= '9';
        }

        private static int nameOf(int sign) {
            switch (sign) {
                case 'n': return 0;
                case 'v': return 1;
                case 's': return 2;
                case 'h': return 3;
                case 'f': return 4;
                case 'y': return 5;
                default: return -1;
            }
        }
    }

    // ---- the field

    private static final class Field {
        static final int NEVER = MOST_MINUTES + 1, NOBODY = -1;

        final int[] skills;
        final int[] minutes;
        final boolean[] up;
        final int[] knocker;
        final int[] dropMinute;
        int knock;
        int z;

        Field() {
            skills = new int[GIRLS];
            minutes = new int[GIRLS];
            up = new boolean[GIRLS];
            knocker = new int[GIRLS];
            dropMinute = new int[GIRLS];
            for (int girl = 0; girl < GIRLS; girl++) {
                skills[girl] = 9;
            }
            knock = 1;
        }

        void becomes(int girl, int skill) {
            skills[girl] = skill;
            minutes[girl] = 0;
        }

        static int minutesAt(int skill) {
            return Math.max(1, skill);
        }

        void learnMinute(int girl) {
            if (skills[girl] >= DRAWS) {
                return;
            }
            minutes[girl]++;
            if (minutes[girl] >= minutesAt(skills[girl])) {
                becomes(girl, skills[girl] + 1);
            }
        }

        void play(int seed, int n) {
            z = seed;
            for (int girl = 0; girl < GIRLS; girl++) {
                up[girl] = true;
                knocker[girl] = NOT;
                dropMinute[girl] = NEVER;
            }
            for (int minute = 1; minute <= n; minute++) {
                playMinute(minute);
            }
        }

        private void playMinute(int minute) {
            for (int girl = 0; girl < GIRLS; girl++) {
                if (up[girl] && draw() >= skills[girl]) {
                    drop(girl, NOT, minute);
                    knockFrom(girl, minute);
                }
            }
        }

        private void knockFrom(int girl, int minute) {
            for (int side = 0; side < 4; side++) {
                int other = beside(girl, side);
                if (other != NOBODY && up[other] && draw() < knock) {
                    drop(other, girl, minute);
                }
            }
        }

        private void drop(int girl, int by, int minute) {
            up[girl] = false;
            knocker[girl] = by;
            dropMinute[girl] = minute;
        }

        private int draw() {
            z = z * 1103515245 + 12345;
            return (z >>> 8) % DRAWS;
        }

        private static int beside(int girl, int side) {
            switch (side) {
                case 0: return girl >= SIDE ? girl - SIDE : NOBODY;
                case 1: return girl % SIDE < SIDE - 1 ? girl + 1 : NOBODY;
                case 2: return girl + SIDE < GIRLS ? girl + SIDE : NOBODY;
                default: return girl % SIDE > 0 ? girl - 1 : NOBODY;
            }
        }

        int howManyUp() {
            int many = 0;
            for (int girl = 0; girl < GIRLS; girl++) {
                if (up[girl]) {
                    many++;
                }
            }
            return many;
        }

        int longest() {
            int best = 0;
            for (int girl = 1; girl < GIRLS; girl++) {
                if (dropMinute[girl] > dropMinute[best]) {
                    best = girl;
                }
            }
            return best;
        }
    }

    // ---- changes

    /** The first ones, undoable of them, stand; those behind, up to noted, may be done again. */
    private static final class Changes {
        static final int MOST = 40;

        final int[] number;
        final int[] what;
        final int[] was;
        final int[] became;
        int undoable;
        int noted;

        Changes() {
            number = new int[MOST];
            what = new int[MOST];
            was = new int[MOST];
            became = new int[MOST];
        }

        void note(int number, int what, int was, int became) {
            if (undoable >= MOST) {
                forgetOldest();
            }
            this.number[undoable] = number;
            this.what[undoable] = what;
            this.was[undoable] = was;
            this.became[undoable] = became;
            undoable++;
            noted = undoable;
        }

        private void forgetOldest() {
            System.arraycopy(number, 1, number, 0, MOST - 1);
            System.arraycopy(what, 1, what, 0, MOST - 1);
            System.arraycopy(was, 1, was, 0, MOST - 1);
            System.arraycopy(became, 1, became, 0, MOST - 1);
            undoable = MOST - 1;
        }
    }

    // ---- turns

    private static final class Turns {
        static final int PUSHES = 0, TURNS = 1, SINKS = 2, TELLS = 3;
        /** Deeper than the longest chain of acts by far. */
        static final int MOST_DEEP = 30;
        private static final int[] ABOVE = {-1, 0, 0, 2, 1, 3, 0, 4};
        /** Kind by kind, act by act: the number of the kind's own body, or 0. */
        private static final int[] OWN = {
            1, 10, 11, 2,
            20, 0, 0, 0,
            0, 30, 0, 0,
            0, 41, 40, 0,
            0, 0, 50, 0,
            0, 0, 0, 60,
            70, 0, 0, 0,
            0, 80, 0, 81,
        };

        final int[] kinds;
        final int[] traced;
        int bodies;
        int ran;
        int actor;

        Turns() {
            kinds = new int[MOST_BODIES];
            traced = new int[MOST_TRACE];
        }

        boolean has(int body) {
            return body >= 0 && body < bodies;
        }

        boolean isFull() {
            return bodies >= MOST_BODIES;
        }

        int addBody(int kind) {
            if (isFull()) {
                return FULL;
            }
            kinds[bodies] = kind;
            bodies++;
            return bodies - 1;
        }

        static boolean isUnder(int kind, int above) {
            int at = kind;
            for (int i = 0; i < KINDS && isKind(at); i++) {
                if (at == above) {
                    return true;
                }
                at = ABOVE[at];
            }
            return false;
        }

        int perform(int body, int act, int x) {
            ran = 0;
            actor = body;
            return own(act, x, 0);
        }

        private int own(int act, int x, int deep) {
            return has(actor) ? runFrom(kinds[actor], act, x, deep) : 0;
        }

        /** The act as the next kind above one has it. */
        private int above(int kind, int act, int x, int deep) {
            return isKind(kind) ? runFrom(ABOVE[kind], act, x, deep) : 0;
        }

        private int runFrom(int kind, int act, int x, int deep) {
            int at = kind;
            for (int i = 0; i < KINDS && isKind(at); i++) {
                if (OWN[at * ACTS + act] != 0) {
                    return deep < MOST_DEEP ? run(OWN[at * ACTS + act], at, x, deep + 1) : 0;
                }
                at = ABOVE[at];
            }
            return 0;
        }

        private int run(int number, int kind, int x, int deep) {
            note(number);
            switch (number) {
                case 1: return x + actor;
                case 2: return own(TURNS, x, deep) - own(SINKS, 1, deep);
                case 10: return own(PUSHES, x, deep) * 2;
                case 11: return x ^ actor;
                case 20: return above(kind, PUSHES, x, deep) + 3;
                case 30: return -above(kind, TURNS, x, deep);
                case 40: return above(kind, SINKS, x, deep) * 3;
                case 41: return above(kind, TURNS, x + 1, deep);
                case 50: return above(kind, SINKS, x, deep) - own(PUSHES, 2, deep);
                case 60: return above(kind, TELLS, x, deep) ^ 5;
                case 70: return above(kind, PUSHES, x, deep) * 2;
                case 80: return above(kind, TURNS, x, deep) + own(SINKS, 2, deep);
                case 81: return above(kind, TELLS, x, deep) - 1;
                default: return 0;
            }
        }

        private void note(int number) {
            if (ran < MOST_TRACE) {
                traced[ran] = number;
            }
            ran++;
        }
    }

    // ---- shelves

    private static final class Shelf {
        static final int NOTHING = 0, TURN = 1, ROW = 2;
        static final int BYTES = 0, SHORTS = 1, INTS = 2, LONGS = 3, BOOLEANS = 4;

        int holds;
        int turn;
        int sort;
        int length;
        final long[] elements;

        Shelf() {
            elements = new long[MOST_ELEMENTS];
        }

        static boolean isSort(int sort) {
            return sort >= BYTES && sort <= BOOLEANS;
        }

        boolean isEmpty() {
            return holds == NOTHING;
        }

        boolean isTurn() {
            return holds == TURN;
        }

        boolean isRow() {
            return holds == ROW;
        }

        boolean hasBytes() {
            return isRow() && sort == BYTES;
        }

        void holdNothing() {
            holds = NOTHING;
            length = 0;
        }

        void holdTurn(int body) {
            holds = TURN;
            turn = body;
            length = 0;
        }

        void holdRow(int sort, int n) {
            holds = ROW;
            this.sort = sort;
            length = n;
            for (int i = 0; i < MOST_ELEMENTS; i++) {
                elements[i] = 0;
            }
        }

        int bytesRefusal() {
            if (isEmpty()) {
                return NOTHING_THERE;
            }
            return hasBytes() ? 0 : OTHER_KIND;
        }

        int placeRefusal(int i) {
            if (isEmpty()) {
                return NOTHING_THERE;
            }
            if (!isRow()) {
                return OTHER_KIND;
            }
            return i >= 0 && i < length ? 0 : NO_PLACE;
        }

        /** Written so that no sum of place and length can wrap. */
        boolean hasStretch(int i, int n) {
            return i >= 0 && n >= 0 && i <= length && n <= length - i;
        }

        void lay(int i, long v) {
            switch (sort) {
                case BYTES: elements[i] = (byte) v; break;
                case SHORTS: elements[i] = (short) v; break;
                case INTS: elements[i] = (int) v; break;
                case BOOLEANS: elements[i] = v != 0 ? 1 : 0; break;
                default: elements[i] = v;
            }
        }

        /** How many ticks from one push to the next; -1: the music has ended. */
        int gapAt(int i) {
            if (i < 0 || i >= length || i >= MOST_ELEMENTS || elements[i] < 1) {
                return -1;
            }
            return (int) elements[i];
        }
    }
}
