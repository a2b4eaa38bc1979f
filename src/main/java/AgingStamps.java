import java.util.Arrays;

/** The island's post, whose stamps are portraits that age, as ../shared/DOC.md tells it. */
public final class AgingStamps {
    public static final int UNKNOWN = -1, OUTSIDE = -2, STATE = -3, FULL = -4, NONE = -9;

    private static final int TEXT_LIMIT = 48, STAMP_LIMIT = 5, LETTER_LIMIT = 4;
    private static final int ACT_LIMIT = 14, SLOT_LIMIT = 2, SEEN_LIMIT = 6;
    private static final int DOING_LIMIT = 4, YEARS_LIMIT = 30, LAST_WEEK = 99, LAST_TEN = 9;
    private static final int PLAIN = 0, CHILD = 1, OLD = 2, FORGED = 3;
    private static final int UNSENT = 0, ON_WAY = 1, COME = 2, DEAD = 3;
    private static final long SEED_FACTOR = 6364136223846793005L;
    private static final long SEED_ADDEND = 1442695040888963407L;

    private final int[] text = new int[TEXT_LIMIT];
    private int length;
    private final Reader reader = new Reader();
    private final Post now = new Post();
    // Whatever is only asked, not done, is tried out on this second post.
    private final Post trial = new Post();
    private final Memory acts = new Memory(ACT_LIMIT);
    private int actCount;
    private final Memory slots = new Memory(SLOT_LIMIT);
    private final boolean[] slotUsed = new boolean[SLOT_LIMIT];
    private final int[] seenStamp = new int[SEEN_LIMIT];
    private final int[] seenWeeks = new int[SEEN_LIMIT];
    private final boolean[] seenAlive = new boolean[SEEN_LIMIT];
    private int seenCount;
    private final int[] doings = new int[DOING_LIMIT];
    private long seed;

    public AgingStamps() {
    }

    // ---- the album

    public int write(int letter) {
        if (letter < 0 || letter > 255) {
            return OUTSIDE;
        }
        if (length >= TEXT_LIMIT) {
            return FULL;
        }
        text[length] = letter;
        length++;
        return length;
    }

    public int wipe() {
        int was = length;
        length = 0;
        return was;
    }

    public int fault() {
        return readInto(trial);
    }

    public int album() {
        if (readInto(trial) != NONE) {
            return STATE;
        }
        now.copyFrom(trial);
        actCount = 0;
        for (int slot = 0; slot < SLOT_LIMIT; slot++) {
            slotUsed[slot] = false;
        }
        return 10 * now.stamps + now.letters;
    }

    public int stamp(int stamp, int what) {
        if (!now.hasStamp(stamp)) {
            return UNKNOWN;
        }
        switch (what) {
            case 0: return now.age[stamp];
            case 1: return now.health[stamp];
            case 2: return now.kind[stamp];
            case 3: return now.span(stamp);
            case 4: return now.rate(stamp);
            case 5: return now.isAlive(stamp) ? 1 : 0;
            case 6: return now.on[stamp];
            case 7: return now.joined[stamp];
            default: return OUTSIDE;
        }
    }

    public int letter(int letter, int what) {
        if (!now.hasLetter(letter)) {
            return UNKNOWN;
        }
        switch (what) {
            case 0: return now.left[letter];
            case 1: return now.cost[letter];
            case 2: return now.stuckBits(letter);
            case 3: return now.goodFor(now.stuckBits(letter));
            case 4: return now.fate[letter];
            default: return OUTSIDE;
        }
    }

    // ---- acts

    public int week() {
        remember();
        now.passWeek();
        return Integer.bitCount(now.aliveBits());
    }

    public int stick(int stamp, int letter) {
        if (!now.hasStamp(stamp) || !now.hasLetter(letter)) {
            return UNKNOWN;
        }
        if (!now.canStick(stamp, letter)) {
            return STATE;
        }
        remember();
        now.stickOn(stamp, letter);
        return Integer.bitCount(now.stuckBits(letter));
    }

    public int send(int letter) {
        if (!now.hasLetter(letter)) {
            return UNKNOWN;
        }
        if (!now.canSend(letter)) {
            return STATE;
        }
        remember();
        now.sendOff(letter);
        return now.left[letter];
    }

    public int part(int stamp, int other) {
        if (!now.hasStamp(stamp) || !now.hasStamp(other)) {
            return UNKNOWN;
        }
        if (!now.areJoined(stamp, other)) {
            return STATE;
        }
        remember();
        now.partTwo(stamp, other);
        return Integer.bitCount(now.joined[stamp]);
    }

    public int damp() {
        remember();
        now.damp = !now.damp;
        return now.damp ? 1 : 0;
    }

    public int undo() {
        if (actCount < 1) {
            return STATE;
        }
        actCount--;
        acts.load(actCount, now);
        return actCount;
    }

    // ---- how long, which

    public int lives(int stamp) {
        if (!now.hasStamp(stamp)) {
            return UNKNOWN;
        }
        trial.copyFrom(now);
        for (int weeks = 0; weeks <= LAST_WEEK; weeks++) {
            if (!trial.isAlive(stamp)) {
                return weeks;
            }
            trial.passWeek();
        }
        return NONE;
    }

    public int comes(int letter, int stamps) {
        if (!now.hasLetter(letter)) {
            return UNKNOWN;
        }
        if (stamps < 0 || stamps > now.allBits()) {
            return OUTSIDE;
        }
        if (now.fate[letter] != UNSENT || (stamps & ~now.freeBits()) != 0) {
            return STATE;
        }
        return tryToSend(letter, stamps);
    }

    public int fewest(int letter) {
        if (!now.hasLetter(letter)) {
            return UNKNOWN;
        }
        if (now.fate[letter] != UNSENT) {
            return STATE;
        }
        int free = now.freeBits();
        for (int size = 0; size <= now.stamps; size++) {
            for (int bits = 0; bits <= free; bits++) {
                boolean fits = (bits & ~free) == 0 && Integer.bitCount(bits) == size;
                if (fits && tryToSend(letter, bits) == 1) {
                    return bits;
                }
            }
        }
        return NONE;
    }

    public int block(int stamp) {
        if (!now.hasStamp(stamp)) {
            return UNKNOWN;
        }
        int bits = 1 << stamp;
        // A way from one stamp to another is never longer than there are stamps.
        for (int round = 0; round < now.stamps; round++) {
            bits |= now.joinedToAny(bits);
        }
        return bits;
    }

    public int judge(int n, long row) {
        if (n < 1 || n > DOING_LIMIT || row < 0) {
            return OUTSIDE;
        }
        long rest = row;
        for (int i = n - 1; i >= 0; i--) {
            doings[i] = (int) (rest % 1000);
            rest /= 1000;
        }
        if (rest != 0) {
            return OUTSIDE;
        }
        trial.copyFrom(now);
        for (int i = 0; i < n; i++) {
            if (!trial.does(doings[i])) {
                return i;
            }
        }
        return NONE;
    }

    // ---- seen

    public int see(int stamp, int n, int alive) {
        if (!now.hasStamp(stamp)) {
            return UNKNOWN;
        }
        if (n < 0 || n > LAST_WEEK || alive < 0 || alive > 1) {
            return OUTSIDE;
        }
        if (seenCount >= SEEN_LIMIT) {
            return FULL;
        }
        seenStamp[seenCount] = stamp;
        seenWeeks[seenCount] = n;
        seenAlive[seenCount] = alive == 1;
        seenCount++;
        return seenCount;
    }

    public int unsee() {
        int was = seenCount;
        seenCount = 0;
        return was;
    }

    public int bought(int stamp) {
        if (!now.hasStamp(stamp)) {
            return UNKNOWN;
        }
        int bits = 0;
        for (int tens = 0; tens <= LAST_TEN; tens++) {
            if (agreesWithSeen(stamp, 10 * tens)) {
                bits |= 1 << tens;
            }
        }
        return bits;
    }

    // ---- shares, rests, chances

    public int share(int stamp, boolean upper) {
        if (!now.hasStamp(stamp)) {
            return UNKNOWN;
        }
        int own = 1 << stamp;
        long sum = 0;
        for (int ahead = 0; ahead <= now.allBits(); ahead++) {
            if ((ahead & own) == 0) {
                int before = Integer.bitCount(ahead);
                long orders = factorial(before) * factorial(now.stamps - 1 - before);
                sum += orders * (now.affordable(ahead | own) - now.affordable(ahead));
            }
        }
        return toldPart(sum, factorial(now.stamps), upper);
    }

    public int rests(int one, int other, int stamp, int what) {
        if (!now.hasLetter(one) || !now.hasLetter(other) || !now.hasStamp(stamp)) {
            return UNKNOWN;
        }
        if (one == other || what < 0 || what > 1) {
            return OUTSIDE;
        }
        if (now.fate[one] != UNSENT || now.fate[other] != UNSENT) {
            return STATE;
        }
        int oneAlone = now.rate(stamp) - now.left[one] / 3;
        int otherAlone = now.rate(stamp) - now.left[other] / 3;
        int found = 0;
        int first = NONE;
        for (int pair = 0; pair < 4; pair++) {
            int oneTakes = pair / 2;
            int otherTakes = pair % 2;
            if (isContent(oneAlone, oneTakes, otherTakes) && isContent(otherAlone, otherTakes, oneTakes)) {
                first = found == 0 ? 10 * oneTakes + otherTakes : first;
                found++;
            }
        }
        return what == 0 ? found : first;
    }

    public int born(int m, int x, boolean upper) {
        if (m < 0 || m > 9 || x < 0 || x > 10) {
            return OUTSIDE;
        }
        int pairs = now.livingPairs();
        if (m > pairs) {
            return toldPart(0, 1, upper);
        }
        long ways = choose(pairs, m) * power(x, m) * power(10 - x, pairs - m);
        return toldPart(ways, power(10, pairs), upper);
    }

    public long seed(long v) {
        long was = seed;
        seed = v;
        return was;
    }

    public int years(int m) {
        if (m < 1 || m > YEARS_LIMIT) {
            return OUTSIDE;
        }
        // Copied once a call: the weeks of each time go by behind those of the time before.
        trial.copyFrom(now);
        int together = 0;
        for (int i = 0; i < m; i++) {
            seed = seed * SEED_FACTOR + SEED_ADDEND;
            tryWeeks((int) ((seed >>> 33) % 10));
            together += Integer.bitCount(trial.aliveBits());
        }
        return together;
    }

    // ---- slots

    public int keep(int slot) {
        if (slot < 0 || slot >= SLOT_LIMIT) {
            return UNKNOWN;
        }
        slots.store(slot, now);
        slotUsed[slot] = true;
        return now.week;
    }

    public int again(int slot) {
        if (slot < 0 || slot >= SLOT_LIMIT) {
            return UNKNOWN;
        }
        if (!slotUsed[slot]) {
            return STATE;
        }
        slots.load(slot, now);
        actCount = 0;
        return now.week;
    }

    public int count(int what) {
        switch (what) {
            case 0: return length;
            case 1: return now.stamps;
            case 2: return now.letters;
            case 3: return now.week;
            case 4: return now.damp ? 1 : 0;
            case 5: return now.aliveBits();
            case 6: return now.widowBits();
            case 7: return now.fateBits(COME);
            case 8: return now.fateBits(DEAD);
            case 9: return actCount;
            case 10: return seenCount;
            default: return OUTSIDE;
        }
    }

    // ---- what the calls above share

    private int readInto(Post draft) {
        draft.clear();
        reader.begin();
        for (int i = 0; i < length; i++) {
            if (!reader.takes(text[i], draft)) {
                return i;
            }
        }
        return reader.mayEnd() ? NONE : length;
    }

    private void remember() {
        if (actCount >= ACT_LIMIT) {
            acts.forgetFirst();
            actCount = ACT_LIMIT - 1;
        }
        acts.store(actCount, now);
        actCount++;
    }

    private int tryToSend(int letter, int bits) {
        trial.copyFrom(now);
        for (int s = 0; s < trial.stamps; s++) {
            if ((bits >> s & 1) == 1) {
                trial.stickOn(s, letter);
            }
        }
        if (!trial.canSend(letter)) {
            return NONE;
        }
        trial.sendOff(letter);
        int weeks = trial.left[letter];
        for (int w = 0; w < weeks; w++) {
            trial.passWeek();
        }
        return trial.fate[letter] == COME ? 1 : 0;
    }

    private boolean agreesWithSeen(int stamp, int ageThen) {
        for (int i = 0; i < seenCount; i++) {
            if (seenStamp[i] == stamp) {
                int age = now.kind[stamp] == FORGED ? ageThen : ageThen + seenWeeks[i];
                if (age < now.span(stamp) != seenAlive[i]) {
                    return false;
                }
            }
        }
        return true;
    }

    private void tryWeeks(int weeks) {
        for (int w = 1; w <= weeks; w++) {
            boolean lastOfOdd = w == weeks && weeks % 2 == 1;
            // Told anew each week, so that a damp last one does not make the next time damp.
            trial.damp = now.damp || lastOfOdd;
            trial.passWeek();
        }
    }

    private static boolean isContent(int alone, int takes, int otherTakes) {
        int taking = otherTakes == 1 ? alone - 3 : alone;
        return takes == 1 ? taking >= 0 : taking <= 0;
    }

    private static int toldPart(long above, long below, boolean upper) {
        long divisor = commonDivisor(above, below);
        long told = upper ? above : below;
        return divisor > 1 ? (int) (told / divisor) : (int) told;
    }

    private static long commonDivisor(long a, long b) {
        long big = a;
        long small = b;
        // Euclid's steps over longs are fewer than a hundred.
        for (int i = 0; i < 100 && small != 0; i++) {
            long rest = big % small;
            big = small;
            small = rest;
        }
        return big;
    }

    private static long factorial(int n) {
        long product = 1;
        for (int i = 2; i <= n; i++) {
            product *= i;
        }
        return product;
    }

    private static long power(int base, int exponent) {
        long product = 1;
        for (int i = 0; i < exponent; i++) {
            product *= base;
        }
        return product;
    }

    private static long choose(int n, int m) {
        long ways = 1;
        for (int i = 1; i <= m; i++) {
            ways = ways * (n - m + i) / i;
        }
        return ways;
    }

    /** Stamps and letters as they stand at one time. */
    private static final class Post {
        int stamps;
        int letters;
        int week;
        boolean damp;
        final int[] age = new int[STAMP_LIMIT];
        final int[] health = new int[STAMP_LIMIT];
        final int[] kind = new int[STAMP_LIMIT];
        final int[] joined = new int[STAMP_LIMIT];
        final int[] on = new int[STAMP_LIMIT];
        final int[] left = new int[LETTER_LIMIT];
        final int[] cost = new int[LETTER_LIMIT];
        final int[] fate = new int[LETTER_LIMIT];

        void clear() {
            stamps = 0;
            letters = 0;
            week = 0;
            damp = false;
            Arrays.fill(joined, 0);
            Arrays.fill(on, NONE);
            Arrays.fill(fate, UNSENT);
        }

        void copyFrom(Post other) {
            stamps = other.stamps;
            letters = other.letters;
            week = other.week;
            damp = other.damp;
            System.arraycopy(other.age, 0, age, 0, STAMP_LIMIT);
            System.arraycopy(other.health, 0, health, 0, STAMP_LIMIT);
            System.arraycopy(other.kind, 0, kind, 0, STAMP_LIMIT);
            System.arraycopy(other.joined, 0, joined, 0, STAMP_LIMIT);
            System.arraycopy(other.on, 0, on, 0, STAMP_LIMIT);
            System.arraycopy(other.left, 0, left, 0, LETTER_LIMIT);
            System.arraycopy(other.cost, 0, cost, 0, LETTER_LIMIT);
            System.arraycopy(other.fate, 0, fate, 0, LETTER_LIMIT);
        }

        boolean hasStamp(int stamp) {
            return stamp >= 0 && stamp < stamps;
        }

        boolean hasLetter(int letter) {
            return letter >= 0 && letter < letters;
        }

        int allBits() {
            return (1 << stamps) - 1;
        }

        void addStamp(int tens, int itsHealth, int itsKind) {
            if (stamps < STAMP_LIMIT) {
                age[stamps] = 10 * tens;
                health[stamps] = itsHealth;
                kind[stamps] = itsKind;
                stamps++;
            }
        }

        void addLetter(int weeks, int itsCost) {
            if (letters < LETTER_LIMIT) {
                left[letters] = weeks;
                cost[letters] = itsCost;
                letters++;
            }
        }

        void joinTwo(int stamp, int other) {
            joined[stamp] |= 1 << other;
            joined[other] |= 1 << stamp;
        }

        boolean areJoined(int stamp, int other) {
            return hasStamp(stamp) && hasStamp(other) && (joined[stamp] >> other & 1) == 1;
        }

        boolean canJoin(int stamp, int other) {
            return hasStamp(stamp) && hasStamp(other) && stamp != other && !areJoined(stamp, other);
        }

        boolean canJoinSome(int stamp) {
            return hasStamp(stamp) && (joined[stamp] | 1 << stamp) != allBits();
        }

        boolean canJoinAny() {
            for (int s = 0; s < stamps; s++) {
                if (canJoinSome(s)) {
                    return true;
                }
            }
            return false;
        }

        int joinedToAny(int bits) {
            int found = 0;
            for (int s = 0; s < stamps; s++) {
                if ((bits >> s & 1) == 1) {
                    found |= joined[s];
                }
            }
            return found;
        }

        int span(int stamp) {
            int more = kind[stamp] == CHILD ? 10 : kind[stamp] == OLD ? 15 : 0;
            return 60 + 3 * health[stamp] + more;
        }

        boolean isAlive(int stamp) {
            return age[stamp] < span(stamp);
        }

        int rate(int stamp) {
            switch (kind[stamp]) {
                case PLAIN: return Math.min(9, 2 + age[stamp] / 20);
                case CHILD: return 1;
                case OLD: return Math.min(9, 2 + age[stamp] / 10);
                default: return 0;
            }
        }

        int aliveBits() {
            int bits = 0;
            for (int s = 0; s < stamps; s++) {
                bits |= isAlive(s) ? 1 << s : 0;
            }
            return bits;
        }

        int widowBits() {
            int alive = aliveBits();
            int bits = 0;
            for (int s = 0; s < stamps; s++) {
                boolean widow = (alive >> s & 1) == 1 && (joined[s] & ~alive) != 0;
                bits |= widow ? 1 << s : 0;
            }
            return bits;
        }

        int freeBits() {
            int bits = 0;
            for (int s = 0; s < stamps; s++) {
                bits |= isAlive(s) && on[s] == NONE ? 1 << s : 0;
            }
            return bits;
        }

        int stuckBits(int letter) {
            int bits = 0;
            for (int s = 0; s < stamps; s++) {
                bits |= on[s] == letter ? 1 << s : 0;
            }
            return bits;
        }

        int fateBits(int which) {
            int bits = 0;
            for (int l = 0; l < letters; l++) {
                bits |= fate[l] == which ? 1 << l : 0;
            }
            return bits;
        }

        int goodFor(int bits) {
            int sum = 0;
            for (int s = 0; s < stamps; s++) {
                sum += (bits >> s & 1) == 1 && isAlive(s) ? rate(s) : 0;
            }
            return sum;
        }

        int affordable(int bits) {
            int good = goodFor(bits);
            int found = 0;
            for (int l = 0; l < letters; l++) {
                found += fate[l] == UNSENT && cost[l] <= good ? 1 : 0;
            }
            return found;
        }

        int livingPairs() {
            int alive = aliveBits();
            int ends = 0;
            for (int s = 0; s < stamps; s++) {
                ends += (alive >> s & 1) == 1 ? Integer.bitCount(joined[s] & alive) : 0;
            }
            return ends / 2;
        }

        boolean canStick(int stamp, int letter) {
            return hasStamp(stamp) && hasLetter(letter)
                && isAlive(stamp) && on[stamp] == NONE && fate[letter] == UNSENT;
        }

        void stickOn(int stamp, int letter) {
            on[stamp] = letter;
            health[stamp] = Math.max(0, health[stamp] - 1);
        }

        boolean canSend(int letter) {
            return hasLetter(letter) && fate[letter] == UNSENT
                && goodFor(stuckBits(letter)) >= cost[letter];
        }

        void sendOff(int letter) {
            fate[letter] = ON_WAY;
        }

        void partTwo(int stamp, int other) {
            joined[stamp] &= ~(1 << other);
            joined[other] &= ~(1 << stamp);
            growOlder(1 << stamp | 1 << other, 1);
        }

        void passWeek() {
            growOlder(aliveBits(), damp ? 2 : 1);
            // All widows are found before one of them is older: none is made by another's grief.
            growOlder(widowBits(), 2);
            for (int l = 0; l < letters; l++) {
                if (fate[l] == ON_WAY) {
                    carry(l);
                }
            }
            week++;
        }

        private void growOlder(int bits, int weeks) {
            for (int s = 0; s < stamps; s++) {
                if ((bits >> s & 1) == 1 && kind[s] != FORGED) {
                    age[s] += weeks;
                }
            }
        }

        private void carry(int letter) {
            left[letter]--;
            if (left[letter] <= 0) {
                fate[letter] = (stuckBits(letter) & aliveBits()) != 0 ? COME : DEAD;
            }
        }

        boolean does(int doing) {
            int second = doing / 10 % 10;
            int third = doing % 10;
            boolean can;
            switch (doing / 100) {
                case 0:
                    can = doing == 0;
                    if (can) {
                        passWeek();
                    }
                    return can;
                case 1:
                    can = canStick(second, third);
                    if (can) {
                        stickOn(second, third);
                    }
                    return can;
                case 2:
                    can = second == 0 && canSend(third);
                    if (can) {
                        sendOff(third);
                    }
                    return can;
                case 3:
                    can = areJoined(second, third);
                    if (can) {
                        partTwo(second, third);
                    }
                    return can;
                default:
                    return false;
            }
        }
    }

    /** Takes a text sign by sign, as long as what it has taken can still become an album. */
    private static final class Reader {
        private static final int NO_PART = 0;
        private boolean begun;
        private int part;
        private int figures;
        private int first;
        private int second;

        void begin() {
            begun = false;
            part = NO_PART;
        }

        boolean mayEnd() {
            return begun && part == NO_PART;
        }

        boolean takes(int sign, Post draft) {
            if (!begun) {
                begun = sign == 'A';
                return begun;
            }
            if (part == NO_PART) {
                return opens(sign, draft);
            }
            int figure = sign - '0';
            if (figure < 0 || figure > 9) {
                return false;
            }
            switch (part) {
                case 'S': return takesOfStamp(figure, draft);
                case 'J': return takesOfJoin(figure, draft);
                default: return takesOfLetter(figure, draft);
            }
        }

        private boolean opens(int sign, Post draft) {
            boolean can = sign == 'S' && draft.stamps < STAMP_LIMIT
                || sign == 'J' && draft.canJoinAny()
                || sign == 'L' && draft.letters < LETTER_LIMIT;
            if (can) {
                part = sign;
                figures = 0;
            }
            return can;
        }

        private boolean takesOfStamp(int figure, Post draft) {
            if (figures < 2) {
                hold(figure);
                return true;
            }
            if (figure > FORGED) {
                return false;
            }
            draft.addStamp(first, second, figure);
            part = NO_PART;
            return true;
        }

        private boolean takesOfJoin(int figure, Post draft) {
            if (figures == 0) {
                hold(figure);
                return draft.canJoinSome(figure);
            }
            if (!draft.canJoin(first, figure)) {
                return false;
            }
            draft.joinTwo(first, figure);
            part = NO_PART;
            return true;
        }

        private boolean takesOfLetter(int figure, Post draft) {
            if (figure < 1) {
                return false;
            }
            if (figures == 0) {
                hold(figure);
                return true;
            }
            draft.addLetter(first, figure);
            part = NO_PART;
            return true;
        }

        private void hold(int figure) {
            if (figures == 0) {
                first = figure;
            } else {
                second = figure;
            }
            figures++;
        }
    }

    /** Posts as they once stood, each a row of figures; kinds and costs never change and are not held. */
    private static final class Memory {
        private static final int HEALTH = STAMP_LIMIT, JOINED = 2 * STAMP_LIMIT, ON = 3 * STAMP_LIMIT;
        private static final int LEFT = 4 * STAMP_LIMIT, FATE = LEFT + LETTER_LIMIT;
        private static final int DAMP = FATE + LETTER_LIMIT, WEEK = DAMP + 1, SIZE = WEEK + 1;
        private final int[] cells;

        Memory(int places) {
            cells = new int[Math.max(0, places) * SIZE];
        }

        private boolean holds(int place) {
            return place >= 0 && place < cells.length / SIZE;
        }

        void store(int place, Post post) {
            if (!holds(place)) {
                return;
            }
            int at = place * SIZE;
            System.arraycopy(post.age, 0, cells, at, STAMP_LIMIT);
            System.arraycopy(post.health, 0, cells, at + HEALTH, STAMP_LIMIT);
            System.arraycopy(post.joined, 0, cells, at + JOINED, STAMP_LIMIT);
            System.arraycopy(post.on, 0, cells, at + ON, STAMP_LIMIT);
            System.arraycopy(post.left, 0, cells, at + LEFT, LETTER_LIMIT);
            System.arraycopy(post.fate, 0, cells, at + FATE, LETTER_LIMIT);
            cells[at + DAMP] = post.damp ? 1 : 0;
            cells[at + WEEK] = post.week;
        }

        void load(int place, Post post) {
            if (!holds(place)) {
                return;
            }
            int at = place * SIZE;
            System.arraycopy(cells, at, post.age, 0, STAMP_LIMIT);
            System.arraycopy(cells, at + HEALTH, post.health, 0, STAMP_LIMIT);
            System.arraycopy(cells, at + JOINED, post.joined, 0, STAMP_LIMIT);
            System.arraycopy(cells, at + ON, post.on, 0, STAMP_LIMIT);
            System.arraycopy(cells, at + LEFT, post.left, 0, LETTER_LIMIT);
            System.arraycopy(cells, at + FATE, post.fate, 0, LETTER_LIMIT);
            post.damp = cells[at + DAMP] == 1;
            post.week = cells[at + WEEK];
        }

        void forgetFirst() {
            if (cells.length >= SIZE) {
                System.arraycopy(cells, SIZE, cells, 0, cells.length - SIZE);
            }
        }
    }
}
