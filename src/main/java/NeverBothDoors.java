import java.util.Arrays;

/** A burrow of rooms with air, joined by locks whose two doors never stand open together. */
public final class NeverBothDoors {
    private static final int ROOMS = 6;
    private static final int OUTSIDE = 6;
    private static final int PLACES = 7;
    private static final int MOST_LOCKS = 7;
    private static final int MOST_PEOPLE = 5;
    private static final int MOST_FIT = 5;
    private static final int MOST_SUITS = 5;
    private static final int MOST_AIR = 999;
    private static final int FIRST_AIR = 100;
    private static final int MOST_LEAK = 9;
    private static final int MOST_MINUTE = 999;
    private static final int MOST_MINUTES = 99;
    private static final int MOST_LETTERS = 96;
    private static final int MOST_LETTER = 255;
    private static final int MOST_IN_ROW = 12;
    private static final int MOST_SEEDS = 30;

    private static final int PERSON_BREATH = 2;
    private static final int CHILD_BREATH = PERSON_BREATH / 2;
    private static final int WORKER_BREATH = PERSON_BREATH * 2;
    private static final int HOLDER_BREATH = WORKER_BREATH - 1;
    private static final int CAT_BREATH = CHILD_BREATH - 1;
    private static final int SLEEPER_BREATH = PERSON_BREATH - 1;

    private static final int NOBODY = -1;
    private static final int OTHER = -2;
    private static final int STATE = -3;
    private static final int BELOW = -4;
    private static final int ABOVE = -6;
    private static final int KINDS_OF_REFUSAL = 6;
    private static final int NONE = -9;
    private static final int FAULT_OF_FORM = -1000;
    private static final int FAULT_OF_SENSE = -2000;

    // Stands above every way there can be, and twice it still fits an int with ease.
    private static final int FAR = 1000000;
    private static final int WITHOUT_SIGN = 0x7fffffff;

    private final Burrow now = new Burrow();
    private final Burrow mind = new Burrow();
    private final Burrow kept = new Burrow();
    private boolean imageTaken = false;
    private final Text text = new Text();
    private final Ways ways = new Ways();
    private final int[] told = new int[MOST_IN_ROW];
    private int toldCount = 0;
    private final int[] refusals = new int[KINDS_OF_REFUSAL + 1];

    public NeverBothDoors() {
    }

    public int letter(int c) {
        if (c < 0) {
            return refuse(BELOW);
        }
        if (c > MOST_LETTER || text.length >= MOST_LETTERS) {
            return refuse(ABOVE);
        }
        text.add(c);
        return text.length;
    }

    public int burrow() {
        int answer = readBurrow();
        text.length = 0;
        return answer;
    }

    public int room(int room, int what) {
        if (!isRoom(room)) {
            return refuse(NOBODY);
        }
        switch (what) {
            case 0: return now.air[room];
            case 1: return now.leak[room];
            case 2: return now.peopleAt(room);
            case 3: return now.breathIn(room);
            default: return refuse(OTHER);
        }
    }

    public int lock(int lock, int what) {
        if (!now.hasLock(lock)) {
            return refuse(NOBODY);
        }
        switch (what) {
            case 0: return now.lesser[lock];
            case 1: return now.other[lock];
            case 2: return now.size[lock];
            case 3: return now.cycle[lock];
            case 4: return now.door[lock];
            default: return refuse(OTHER);
        }
    }

    public int person(int person, int what) {
        if (!now.hasPerson(person)) {
            return refuse(NOBODY);
        }
        switch (what) {
            case 0: return now.kind[person];
            case 1: return now.place[person];
            case 2: return now.fit[person];
            case 3: return now.suit[person];
            case 4: return now.breathOf(person);
            default: return refuse(OTHER);
        }
    }

    public int open(int lock, int door) {
        if (!now.hasLock(lock)) {
            return refuse(NOBODY);
        }
        if (door < 0 || door > 2) {
            return refuse(OTHER);
        }
        int before = now.door[lock];
        if (door != 0 && before != 0 && before != door) {
            return refuse(STATE);
        }
        now.door[lock] = door;
        return before;
    }

    public int passes(int person, int lock) {
        if (!now.hasPerson(person) || !now.hasLock(lock)) {
            return refuse(NOBODY);
        }
        if (!now.canPass(person, lock)) {
            return refuse(STATE);
        }
        if (now.minute + now.cycle[lock] > MOST_MINUTE) {
            return refuse(ABOVE);
        }
        now.goThrough(person, lock);
        return now.place[person];
    }

    public int minutes(int n) {
        if (n < 1) {
            return refuse(BELOW);
        }
        if (n > MOST_MINUTES || now.minute + n > MOST_MINUTE) {
            return refuse(ABOVE);
        }
        return now.liveMinutes(n);
    }

    public int leak(int room, int v) {
        if (!isRoom(room)) {
            return refuse(NOBODY);
        }
        if (v < 0) {
            return refuse(BELOW);
        }
        if (v > MOST_LEAK) {
            return refuse(ABOVE);
        }
        int before = now.leak[room];
        now.leak[room] = v;
        return before;
    }

    public int air(int room, int n) {
        if (!isRoom(room)) {
            return refuse(NOBODY);
        }
        if (n < 0) {
            return refuse(BELOW);
        }
        if (n > MOST_MINUTES) {
            return refuse(ABOVE);
        }
        return now.airBehind(room, now.leak[room], n);
    }

    public int gasps(int n) {
        if (n < 0) {
            return refuse(BELOW);
        }
        if (n > MOST_MINUTES) {
            return refuse(ABOVE);
        }
        mind.become(now);
        return mind.liveMinutes(n);
    }

    public int out() {
        mind.become(now);
        for (int n = 1; n <= MOST_MINUTES; n++) {
            if (mind.liveMinute() > 0) {
                return n;
            }
        }
        return NONE;
    }

    public int way(int from, int to) {
        if (!isPlace(from) || !isPlace(to)) {
            return refuse(NOBODY);
        }
        ways.measure(now);
        return orNone(ways.length[from][to]);
    }

    public int soonest(int from) {
        if (!isPlace(from)) {
            return refuse(NOBODY);
        }
        ways.measure(now);
        return orNone(ways.toAnyRoom(from));
    }

    public int farthest(int what) {
        if (what != 0 && what != 1) {
            return refuse(OTHER);
        }
        ways.measure(now);
        int room = ways.farthestRoom();
        if (!isRoom(room)) {
            return NONE;
        }
        return what == 0 ? room : ways.length[OUTSIDE][room];
    }

    public int more(int what) {
        if (what != 0 && what != 1) {
            return refuse(OTHER);
        }
        ways.measure(now);
        return what == 0 ? bestNewLock() : orNone(longestWith(bestNewLock()));
    }

    public int errands(int from, int places) {
        if (!isPlace(from) || places < 0 || places >= 1 << PLACES) {
            return refuse(NOBODY);
        }
        ways.measure(now);
        return orNone(ways.errandsFrom(from, places));
    }

    public int fitted() {
        return now.people - Integer.bitCount(now.leastBare());
    }

    public int bare() {
        return now.leastBare();
    }

    public int row(int v) {
        if (v < 0) {
            return refuse(BELOW);
        }
        if (v > MOST_AIR || toldCount >= MOST_IN_ROW) {
            return refuse(ABOVE);
        }
        told[toldCount] = v;
        toldCount++;
        return toldCount;
    }

    public int gauges(int n, int what) {
        if (n < 0) {
            return refuse(BELOW);
        }
        if (n > MOST_MINUTES) {
            return refuse(ABOVE);
        }
        if (what < 0 || what > 2) {
            return refuse(OTHER);
        }
        if (toldCount != ROOMS) {
            return refuse(STATE);
        }
        switch (what) {
            case 0: return waysToLeak(n);
            case 1: return firstToLeak(n);
            default: return roomsUnlikeTold(n) == 0 ? 1 : 0;
        }
    }

    public int judge() {
        int passed = passToldInMind();
        return passed < toldCount ? passed : NONE;
    }

    public int ends() {
        passToldInMind();
        return mind.gasped - now.gasped;
    }

    public int clear() {
        int before = toldCount;
        toldCount = 0;
        return before;
    }

    public int seeds(int n, int z) {
        if (n < 1) {
            return refuse(BELOW);
        }
        if (n > MOST_SEEDS) {
            return refuse(ABOVE);
        }
        if (now.people == 0 || now.locks == 0) {
            return refuse(STATE);
        }
        return passBySeeds(n, z);
    }

    public int image() {
        kept.become(now);
        imageTaken = true;
        return now.minute;
    }

    public int on() {
        if (!imageTaken) {
            return refuse(STATE);
        }
        now.become(kept);
        return now.minute;
    }

    public int count(int what) {
        switch (what) {
            case 0: return now.locks;
            case 1: return now.people;
            case 2: return now.minute;
            case 3: return sum(now.air);
            case 4: return sum(now.leak);
            case 5: return now.gasped;
            case 6: return toldCount;
            case 7: return text.length;
            default: return what > 10 && what <= 10 + KINDS_OF_REFUSAL ? refusals[what - 10] : NONE;
        }
    }

    private int refuse(int number) {
        if (number < 0 && number >= -KINDS_OF_REFUSAL) {
            refusals[-number]++;
        }
        return number;
    }

    private static boolean isRoom(int room) {
        return room >= 0 && room < ROOMS;
    }

    private static boolean isPlace(int place) {
        return place >= 0 && place < PLACES;
    }

    private static int orNone(int minutes) {
        return minutes < FAR ? minutes : NONE;
    }

    private static int sum(int[] numbers) {
        int all = 0;
        for (int number : numbers) {
            all += number;
        }
        return all;
    }

    // The statements come to the burrow in mind first, so that with a fault nothing has come.
    private int readBurrow() {
        int misformed = text.misformedAt();
        if (misformed >= 0) {
            return FAULT_OF_FORM - misformed;
        }
        mind.become(now);
        int at = 0;
        int statements = 0;
        while (at < text.length && statements < MOST_LETTERS) {
            if (!comesToMind(at)) {
                return FAULT_OF_SENSE - at;
            }
            at = text.behindStatement(at);
            statements++;
        }
        now.become(mind);
        return statements;
    }

    private boolean comesToMind(int at) {
        int first = text.digitAt(at + 1);
        int second = text.digitAt(at + 2);
        int third = text.digitAt(at + 3);
        switch (text.signAt(at)) {
            case 'r': return mind.tellAir(first, text.numberAt(at + 3));
            case 'k': return mind.tellLeak(first, second);
            case 'l': return mind.tellLock(first, second, third, text.digitAt(at + 4));
            case 'p': return mind.tellPerson(kindOf(text.signAt(at + 1)), second, third, text.numberAt(at + 5));
            case 's': return mind.tellSuits(first, second);
            default: return false;
        }
    }

    private static int kindOf(int sign) {
        switch (sign) {
            case 'p': return 0;
            case 'c': return 1;
            case 'w': return 2;
            case 'h': return 3;
            case 't': return 4;
            case 's': return 5;
            default: return -1;
        }
    }

    private static int breathOfKind(int kind, boolean alone) {
        switch (kind) {
            case 0: return PERSON_BREATH;
            case 1: return CHILD_BREATH;
            case 2: return WORKER_BREATH;
            case 3: return HOLDER_BREATH;
            case 4: return CAT_BREATH;
            case 5: return alone ? 0 : SLEEPER_BREATH;
            default: return 0;
        }
    }

    // 10 times the lesser place and the other; going up in this order, the first of equals is the least.
    private int bestNewLock() {
        int best = NONE;
        int least = FAR;
        for (int one = 0; one < PLACES; one++) {
            for (int two = one + 1; two < PLACES; two++) {
                int longest = longestWith(10 * one + two);
                if (longest < least) {
                    least = longest;
                    best = 10 * one + two;
                }
            }
        }
        return best;
    }

    private int longestWith(int newLock) {
        return newLock < 0 ? FAR : ways.longestWith(newLock / 10, newLock % 10);
    }

    private boolean isAsTold(int room, int leak, int n) {
        return isRoom(room) && now.airBehind(room, leak, n) == told[room];
    }

    private int roomsUnlikeTold(int n) {
        int unlike = 0;
        for (int room = 0; room < ROOMS; room++) {
            if (!isAsTold(room, now.leak[room], n)) {
                unlike++;
            }
        }
        return unlike;
    }

    // A leak of one room changes the air of no other, so all others must be as told by themselves.
    private boolean wouldMakeAllSo(int room, int leak, int n, int unlikeNow) {
        if (!isRoom(room) || now.leak[room] == leak || !isAsTold(room, leak, n)) {
            return false;
        }
        int unlikeItself = isAsTold(room, now.leak[room], n) ? 0 : 1;
        return unlikeNow == unlikeItself;
    }

    private int waysToLeak(int n) {
        int unlikeNow = roomsUnlikeTold(n);
        int many = 0;
        for (int room = 0; room < ROOMS; room++) {
            for (int leak = 0; leak <= MOST_LEAK; leak++) {
                if (wouldMakeAllSo(room, leak, n, unlikeNow)) {
                    many++;
                }
            }
        }
        return many;
    }

    private int firstToLeak(int n) {
        int unlikeNow = roomsUnlikeTold(n);
        for (int room = 0; room < ROOMS; room++) {
            for (int leak = 0; leak <= MOST_LEAK; leak++) {
                if (wouldMakeAllSo(room, leak, n, unlikeNow)) {
                    return 10 * room + leak;
                }
            }
        }
        return NONE;
    }

    /** How many of the row could be, one behind the other; behind it the burrow in mind is as they leave it. */
    private int passToldInMind() {
        mind.become(now);
        for (int i = 0; i < toldCount; i++) {
            int person = told[i] / 10;
            int lock = told[i] % 10;
            if (!mind.canPass(person, lock)) {
                return i;
            }
            mind.goThrough(person, lock);
        }
        return toldCount;
    }

    private int passBySeeds(int n, int seed) {
        mind.become(now);
        int z = seed;
        int could = 0;
        for (int i = 0; i < n; i++) {
            z = nextSeed(z);
            int person = drawn(z, mind.people);
            z = nextSeed(z);
            int lock = drawn(z, mind.locks);
            if (mind.canPass(person, lock)) {
                mind.goThrough(person, lock);
                could++;
            }
        }
        return could;
    }

    private static int nextSeed(int z) {
        return z * 1664525 + 1013904223;
    }

    private static int drawn(int z, int m) {
        return m > 0 ? (z & WITHOUT_SIGN) / 256 % m : 0;
    }

    /** All that an image keeps. */
    private static final class Burrow {
        final int[] air = new int[ROOMS];
        final int[] leak = new int[ROOMS];
        final int[] lesser = new int[MOST_LOCKS];
        final int[] other = new int[MOST_LOCKS];
        final int[] size = new int[MOST_LOCKS];
        final int[] cycle = new int[MOST_LOCKS];
        final int[] door = new int[MOST_LOCKS];
        int locks = 0;
        final int[] kind = new int[MOST_PEOPLE];
        final int[] place = new int[MOST_PEOPLE];
        final int[] fit = new int[MOST_PEOPLE];
        final int[] suit = new int[MOST_PEOPLE];
        int people = 0;
        final int[] suits = new int[MOST_FIT + 1];
        int minute = 0;
        int gasped = 0;

        Burrow() {
            Arrays.fill(air, FIRST_AIR);
        }

        void become(Burrow that) {
            System.arraycopy(that.air, 0, air, 0, ROOMS);
            System.arraycopy(that.leak, 0, leak, 0, ROOMS);
            System.arraycopy(that.lesser, 0, lesser, 0, MOST_LOCKS);
            System.arraycopy(that.other, 0, other, 0, MOST_LOCKS);
            System.arraycopy(that.size, 0, size, 0, MOST_LOCKS);
            System.arraycopy(that.cycle, 0, cycle, 0, MOST_LOCKS);
            System.arraycopy(that.door, 0, door, 0, MOST_LOCKS);
            locks = that.locks;
            System.arraycopy(that.kind, 0, kind, 0, MOST_PEOPLE);
            System.arraycopy(that.place, 0, place, 0, MOST_PEOPLE);
            System.arraycopy(that.fit, 0, fit, 0, MOST_PEOPLE);
            System.arraycopy(that.suit, 0, suit, 0, MOST_PEOPLE);
            people = that.people;
            System.arraycopy(that.suits, 0, suits, 0, MOST_FIT + 1);
            minute = that.minute;
            gasped = that.gasped;
        }

        boolean hasLock(int lock) {
            return lock >= 0 && lock < locks;
        }

        boolean hasPerson(int person) {
            return person >= 0 && person < people;
        }

        boolean tellAir(int room, int v) {
            if (!isRoom(room) || v < 0 || v > MOST_AIR) {
                return false;
            }
            air[room] = v;
            return true;
        }

        boolean tellLeak(int room, int v) {
            if (!isRoom(room) || v < 0 || v > MOST_LEAK) {
                return false;
            }
            leak[room] = v;
            return true;
        }

        boolean tellLock(int one, int two, int takes, int lasts) {
            if (!isPlace(one) || !isPlace(two) || one == two) {
                return false;
            }
            if (takes < 0 || lasts < 1 || locks >= MOST_LOCKS) {
                return false;
            }
            lesser[locks] = Math.min(one, two);
            other[locks] = Math.max(one, two);
            size[locks] = takes;
            cycle[locks] = lasts;
            door[locks] = 0;
            locks++;
            return true;
        }

        boolean tellPerson(int ofKind, int at, int ofFit, int inSuit) {
            if (ofKind < 0 || !isPlace(at) || ofFit < 1 || ofFit > MOST_FIT) {
                return false;
            }
            if (inSuit < 0 || people >= MOST_PEOPLE) {
                return false;
            }
            kind[people] = ofKind;
            place[people] = at;
            fit[people] = ofFit;
            suit[people] = inSuit;
            people++;
            return true;
        }

        boolean tellSuits(int ofFit, int many) {
            if (ofFit < 1 || ofFit > MOST_FIT || many < 0 || many > MOST_SUITS) {
                return false;
            }
            suits[ofFit] = many;
            return true;
        }

        int peopleAt(int where) {
            int there = 0;
            for (int person = 0; person < people; person++) {
                if (place[person] == where) {
                    there++;
                }
            }
            return there;
        }

        int breathOf(int person) {
            if (!hasPerson(person) || !isRoom(place[person])) {
                return 0;
            }
            return breathOfKind(kind[person], peopleAt(place[person]) == 1);
        }

        int breathIn(int room) {
            boolean alone = peopleAt(room) == 1;
            int breath = 0;
            for (int person = 0; person < people; person++) {
                if (place[person] == room) {
                    breath += breathOfKind(kind[person], alone);
                }
            }
            return breath;
        }

        // While only minutes go by nobody moves, so each of them takes the same.
        int airBehind(int room, int leaking, int n) {
            return isRoom(room) ? Math.max(0, air[room] - n * (leaking + breathIn(room))) : 0;
        }

        int liveMinute() {
            int gasping = 0;
            for (int room = 0; room < ROOMS; room++) {
                int left = air[room] - leak[room] - breathIn(room);
                if (left < 0) {
                    gasping += peopleAt(room);
                }
                air[room] = Math.max(0, left);
            }
            for (int person = 0; person < people; person++) {
                if (place[person] == OUTSIDE) {
                    gasping += suit[person] == 0 ? 1 : 0;
                    suit[person] = Math.max(0, suit[person] - 1);
                }
            }
            minute++;
            gasped += gasping;
            return gasping;
        }

        int liveMinutes(int n) {
            int before = gasped;
            for (int i = 0; i < n; i++) {
                liveMinute();
            }
            return gasped - before;
        }

        boolean canPass(int person, int lock) {
            if (!hasPerson(person) || !hasLock(lock) || door[lock] != 0) {
                return false;
            }
            return place[person] == lesser[lock] || place[person] == other[lock];
        }

        void goThrough(int person, int lock) {
            if (!canPass(person, lock)) {
                return;
            }
            int room = lesser[lock];
            place[person] = place[person] == room ? other[lock] : room;
            if (other[lock] == OUTSIDE && isRoom(room)) {
                air[room] = Math.max(0, air[room] - size[lock]);
            }
            liveMinutes(cycle[lock]);
        }

        // Going up, the first of equally few is the least.
        int leastBare() {
            int all = (1 << people) - 1;
            int best = all;
            for (int bits = 0; bits < all; bits++) {
                if (Integer.bitCount(bits) < Integer.bitCount(best) && suitsAreEnoughBut(bits)) {
                    best = bits;
                }
            }
            return best;
        }

        // Suits of one's own fit are of no use to greater ones, so they are taken first.
        boolean suitsAreEnoughBut(int bareBits) {
            int inNextFit = 0;
            for (int f = 1; f <= MOST_FIT; f++) {
                int left = suits[f] - inNextFit;
                if (left < 0) {
                    return false;
                }
                inNextFit = Math.max(0, peopleOfFit(f, bareBits) - left);
            }
            return inNextFit == 0;
        }

        int peopleOfFit(int f, int bareBits) {
            int many = 0;
            for (int person = 0; person < people; person++) {
                if (fit[person] == f && (bareBits >> person & 1) == 0) {
                    many++;
                }
            }
            return many;
        }
    }

    /** The letters that have come, and the form of what they tell. */
    private static final class Text {
        private static final char DIGIT = '#';
        private static final char MAY_BE_DIGIT = '?';
        private static final char KIND = '@';

        final int[] signs = new int[MOST_LETTERS];
        int length = 0;

        void add(int sign) {
            if (length < MOST_LETTERS) {
                signs[length] = sign;
                length++;
            }
        }

        int signAt(int at) {
            return at >= 0 && at < length ? signs[at] : -1;
        }

        int digitAt(int at) {
            int sign = signAt(at);
            return sign >= '0' && sign <= '9' ? sign - '0' : -1;
        }

        /** The number whose digits, 3 at most, begin there; -1. */
        int numberAt(int at) {
            int number = digitAt(at);
            for (int i = 1; i < 3 && digitAt(at + i) >= 0; i++) {
                number = 10 * number + digitAt(at + i);
            }
            return number;
        }

        /** Where the first letter stands with which no burrow can go on; -1. */
        int misformedAt() {
            int at = 0;
            for (int statements = 0; statements < MOST_LETTERS; statements++) {
                int behind = behindStatement(at);
                if (behind < 0) {
                    return -1 - behind;
                }
                if (behind >= length) {
                    return -1;
                }
                at = behind;
            }
            return at;
        }

        /** The place behind the statement that begins there; -1 less the place of the letter that is none of one. */
        int behindStatement(int at) {
            String shape = shapeBehind(signAt(at));
            if (shape.isEmpty()) {
                return -1 - at;
            }
            int here = at + 1;
            for (int i = 0; i < shape.length(); i++) {
                char due = shape.charAt(i);
                if (isDue(due, here)) {
                    here++;
                } else if (due != MAY_BE_DIGIT) {
                    return -1 - here;
                }
            }
            return here;
        }

        private static String shapeBehind(int sign) {
            switch (sign) {
                case 'r': return "#,#??;";
                case 'k': return "##;";
                case 'l': return "####;";
                case 'p': return "@##,#?;";
                case 's': return "##;";
                default: return "";
            }
        }

        private boolean isDue(char due, int at) {
            switch (due) {
                case DIGIT: return digitAt(at) >= 0;
                case MAY_BE_DIGIT: return digitAt(at) >= 0;
                case KIND: return kindOf(signAt(at)) >= 0;
                default: return signAt(at) == due;
            }
        }
    }

    /** The fewest minutes of cycles from each place to each. */
    private static final class Ways {
        final int[][] length = new int[PLACES][PLACES];
        // By the places come by (bits) and the last of them.
        private final int[] errand = new int[(1 << PLACES) * PLACES];

        void measure(Burrow burrow) {
            for (int from = 0; from < PLACES; from++) {
                for (int to = 0; to < PLACES; to++) {
                    length[from][to] = from == to ? 0 : FAR;
                }
            }
            for (int lock = 0; lock < burrow.locks; lock++) {
                join(burrow.lesser[lock], burrow.other[lock], burrow.cycle[lock]);
            }
            for (int by = 0; by < PLACES; by++) {
                shortenBy(by);
            }
        }

        private void join(int one, int two, int minutes) {
            if (isPlace(one) && isPlace(two)) {
                length[one][two] = Math.min(length[one][two], minutes);
                length[two][one] = Math.min(length[two][one], minutes);
            }
        }

        private void shortenBy(int by) {
            for (int from = 0; from < PLACES; from++) {
                for (int to = 0; to < PLACES; to++) {
                    length[from][to] = Math.min(length[from][to], length[from][by] + length[by][to]);
                }
            }
        }

        int toAnyRoom(int from) {
            int least = FAR;
            for (int room = 0; room < ROOMS; room++) {
                least = Math.min(least, length[from][room]);
            }
            return least;
        }

        int farthestRoom() {
            int farthest = NONE;
            int longest = -1;
            for (int room = 0; room < ROOMS; room++) {
                int minutes = length[OUTSIDE][room];
                if (minutes < FAR && minutes > longest) {
                    longest = minutes;
                    farthest = room;
                }
            }
            return farthest;
        }

        /** The longest way from outside to a room, were these two places joined by a lock of cycle 1. */
        int longestWith(int one, int two) {
            if (!isPlace(one) || !isPlace(two)) {
                return FAR;
            }
            int longest = 0;
            for (int room = 0; room < ROOMS; room++) {
                int byOne = length[OUTSIDE][one] + 1 + length[two][room];
                int byTwo = length[OUTSIDE][two] + 1 + length[one][room];
                longest = Math.max(longest, Math.min(length[OUTSIDE][room], Math.min(byOne, byTwo)));
            }
            return longest;
        }

        int errandsFrom(int from, int places) {
            if (!isPlace(from) || places < 0 || places >= 1 << PLACES) {
                return FAR;
            }
            int all = places | 1 << from;
            Arrays.fill(errand, FAR);
            errand[(1 << from) * PLACES + from] = 0;
            for (int by = 0; by < all; by++) {
                for (int at = 0; at < PLACES; at++) {
                    goOnFrom(by, at, all);
                }
            }
            int least = FAR;
            for (int at = 0; at < PLACES; at++) {
                least = Math.min(least, errand[all * PLACES + at]);
            }
            return least;
        }

        // The ways lead by places between without a word, so only places of the errands are gone to.
        private void goOnFrom(int by, int at, int all) {
            int minutes = errand[by * PLACES + at];
            for (int next = 0; next < PLACES; next++) {
                int then = by | 1 << next;
                if (then != by && (then | all) == all) {
                    int i = then * PLACES + next;
                    errand[i] = Math.min(errand[i], minutes + length[at][next]);
                }
            }
        }
    }
}
