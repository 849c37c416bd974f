import java.util.Arrays;

/**
 * A picker by weights: things told as a text, drawn by rows of bits through a table of columns, through
 * their parts side by side, or through bands of like weights.
 */
public final class ShareWheel {
    public static final int NONE = -1;
    public static final int OPEN = -2;
    public static final int NOTHING = -1000000;

    private static final int MOST_THINGS = 16;
    private static final int MOST_TEAMS = 4;
    private static final int MOST_LETTERS = 6;
    private static final int LETTER_BITS = 5;
    private static final int MOST_LIMIT = 16;
    private static final int UNIT = 1024;
    private static final int MOST_WEIGHT = 9999 * UNIT;
    private static final int MOST_TERM = 1000;
    private static final int TAPE_BYTES = 1200;
    private static final int TRY_BYTES = 100;
    private static final int STORE_BITS = 3200;
    /** One word more than 3200 bits fill: the first bit left may stand anywhere in its word. */
    private static final int STORE_WORDS = STORE_BITS / 32 + 1;
    private static final int MOST_ACTS = 20;
    private static final int MOST_PICKS = 60;
    private static final int MOST_ROW_BITS = 12;
    private static final int MOST_SEEN = 20;
    private static final int SEEN_OPEN = 255;
    private static final int SEEN_BITS = 8;
    private static final int GUESSES = 32;
    private static final int BYTES = 256;
    /** NEW by GRAIN is below 2 to the 24. */
    private static final int BANDS = 24;
    private static final int MOST_IMAGE = 2 + 8 * MOST_THINGS;
    private static final int CHECK_START = 179;
    private static final int CHECK_FACTOR = 3;
    private static final int CHECK_MODULUS = 251;
    private static final int MOST_INT = 0x7FFFFFFF;
    /**
     * The seed's bits come round again after 2 to the 17 of them: a PICK, or a DRAW, that has begun anew
     * more often than that begins where it has been, and would never end. No row of bits is as long.
     */
    private static final int MOST_ROUNDS = (1 << 17) + 1;
    private static final int ALL = (1 << MOST_THINGS) - 1;

    private static final int BY_TABLE = 0;
    private static final int BY_PARTS = 1;
    private static final int BY_BANDS = 2;
    private static final int BY_PAIR = 3;

    private final Tape tape = new Tape();
    private final Plan plan = new Plan();
    private final Reader reader = new Reader(tape);
    private final State state = new State();
    private final History history = new History();
    private final Scales scales = new Scales();
    private final Picker picker = new Picker(scales);
    private final Walk walk = new Walk();
    private final Seen seen = new Seen();
    private final Bits tapeBits = new Bits(tape.words);
    private final Bits storedBits = new Bits(state.words);
    private final SeedBits seedBits = new SeedBits();
    private final int[] tally = new int[MOST_THINGS];
    private final int[] refused = new int[6];
    private final int[] picture = new int[MOST_IMAGE];
    private int pictureSize;
    private int reason;
    private int cause;

    public ShareWheel() {
        seedBits.x = 1;
    }

    // ---- the tape and the wheel

    public int feed(int a, int b, int c, int d, int e) {
        if (tape.length + 20 > TAPE_BYTES) {
            return refuse(0);
        }
        tape.add(a);
        tape.add(b);
        tape.add(c);
        tape.add(d);
        tape.add(e);
        return tape.length;
    }

    public boolean end(int n) {
        if (n < 0 || n > tape.length) {
            return deny(0);
        }
        tape.length = n;
        return true;
    }

    public int wheel() {
        int statements = reader.readAll();
        tape.length = 0;
        if (statements == NONE) {
            return refuse(1);
        }
        plan.copy(reader.plan);
        plan.told = true;
        state.begin(plan);
        history.count = 0;
        seen.count = 0;
        scales.renew(state);
        return statements;
    }

    public int fault(int what) {
        if (what == 0) {
            return reader.fault;
        }
        return what == 1 ? reader.place : NONE;
    }

    public int has(int what) {
        if (what == 14) {
            return seedBits.x;
        }
        if (what < 0 || what > 14) {
            return NONE;
        }
        if (!plan.told) {
            return 0;
        }
        return what < 8 ? weighed(what) : happened(what);
    }

    private int weighed(int what) {
        switch (what) {
            case 0: return scales.things;
            case 1: return state.limit;
            case 2: return scales.total;
            case 3: return scales.base;
            case 4: return scales.gain;
            case 5: return scales.loss;
            case 6: return scales.grain;
            default: return scales.unlike;
        }
    }

    private int happened(int what) {
        switch (what) {
            case 8: return state.mergings;
            case 9: return state.to - state.from;
            case 10: return state.allCounts(ALL);
            case 11: return state.taken;
            case 12: return seen.count;
            default: return history.count;
        }
    }

    public int letter(int thing, int k) {
        return isThing(thing) ? letterOf(plan.names[thing], k) : NONE;
    }

    public int thing(int thing, int what) {
        if (!isThing(thing)) {
            return NONE;
        }
        switch (what) {
            case 0: return scales.old[thing];
            case 1: return scales.now[thing];
            case 2: return scales.more(thing);
            case 3: return scales.less(thing);
            case 4: return state.count[thing];
            default: return NONE;
        }
    }

    public long weight(int thing) {
        if (!isThing(thing)) {
            return -1L;
        }
        int parts = scales.now[thing];
        if (parts <= 0) {
            return 0L;
        }
        int highest = 31 - Integer.numberOfLeadingZeros(parts);
        long exponent = 1023 + highest - 10;
        long digits = ((long) parts << (52 - highest)) & ((1L << 52) - 1);
        return exponent << 52 | digits;
    }

    public int column(int column, int what) {
        if (column < 0 || column >= scales.columns()) {
            return NONE;
        }
        if (what == 0) {
            return scales.byGrain(scales.own[column]);
        }
        return what == 1 ? scales.alias[column] : NONE;
    }

    public int mass(int thing) {
        if (!isThing(thing) || scales.columns() == 0) {
            return NONE;
        }
        int sum = scales.own[thing];
        for (int i = 0; i < scales.things; i++) {
            if (i != thing && scales.alias[i] == thing) {
                sum += scales.base - scales.own[i];
            }
        }
        return scales.byGrain(sum);
    }

    public int rank(int k) {
        return scales.ranked(k);
    }

    // ---- shares

    public int share(int thing, int what) {
        return isThing(thing) ? lowest(scales.now[thing], scales.total, what) : NONE;
    }

    public int goes(int what) {
        return lowest(scales.base + scales.gain, scales.total, what);
    }

    public int would(int one, int weight, int thing, int what) {
        if (!isThing(one) || !isThing(thing) || !isWeight(weight)) {
            return NONE;
        }
        int total = scales.total - scales.now[one] + weight;
        return lowest(thing == one ? weight : scales.now[thing], total, what);
    }

    public int needs(int thing, int above, int below) {
        if (!isThing(thing) || !isQuota(above, below) || above > below) {
            return NONE;
        }
        long others = scales.total - scales.now[thing];
        if (others == 0) {
            // Without any weight there is no SHARE; with the least one it is all.
            return 1;
        }
        if (above == below) {
            return NONE;
        }
        long least = ceiling(above * others, below - above);
        return least <= MOST_WEIGHT ? (int) least : NONE;
    }

    public int merges(int thing, int weight) {
        if (!isThing(thing) || !isWeight(weight)) {
            return NONE;
        }
        int old = scales.old[thing];
        int unlike = scales.unlike - (old != scales.now[thing] ? 1 : 0) + (old != weight ? 1 : 0);
        int loss = scales.loss - scales.less(thing) + Math.max(0, old - weight);
        return mustMerge(unlike, loss) ? 1 : 0;
    }

    public int owed(int thing) {
        if (!isThing(thing) || scales.total <= 0) {
            return NOTHING;
        }
        return owedTo(thing);
    }

    private int owedTo(int thing) {
        if (scales.total <= 0) {
            return 0;
        }
        long due = (long) scales.now[thing] * state.allCounts(ALL) / scales.total;
        return (int) due - state.count[thing];
    }

    public int creditor(int what) {
        if (scales.total <= 0 || what < 0 || what > 1) {
            return NONE;
        }
        int found = 0;
        int best = owedTo(0);
        for (int i = 1; i < scales.things; i++) {
            int due = owedTo(i);
            if (what == 0 ? due > best : due < best) {
                found = i;
                best = due;
            }
        }
        return found;
    }

    // ---- teams

    public int team(int team, int what) {
        if (!isTeam(team)) {
            return NONE;
        }
        int mask = plan.masks[team];
        switch (what) {
            case 0: return mask;
            case 1: return scales.together(mask);
            case 2: return state.allCounts(mask);
            case 3: return scales.greatest(mask);
            default: return NONE;
        }
    }

    public int called(int team, int k) {
        return isTeam(team) ? letterOf(plan.teamNames[team], k) : NONE;
    }

    public int inside(int team, int thing, int what) {
        if (!isTeam(team) || !isThing(thing) || (plan.masks[team] >> thing & 1) == 0) {
            return NONE;
        }
        return lowest(scales.now[thing], scales.together(plan.masks[team]), what);
    }

    public int triesIn(int team, int what) {
        int mask = isTeam(team) ? plan.masks[team] : 0;
        return triedOnTape(BY_PARTS, mask, what);
    }

    public int rowsIn(int team, int k, int thing) {
        if (!isTeam(team) || scales.together(plan.masks[team]) == 0) {
            return NONE;
        }
        if (!isRowSize(k) || thing != NONE && !isThing(thing)) {
            return NONE;
        }
        return countRows(BY_PARTS, plan.masks[team], k, thing == NONE ? OPEN : thing);
    }

    public int quorum(int above, int below, int what) {
        if (scales.total <= 0 || !isQuota(above, below) || what < 0 || what > 1) {
            return NONE;
        }
        long mark = ceiling((long) above * scales.total, below);
        int members = 0;
        long sum = 0;
        for (int k = 0; k <= scales.things; k++) {
            if (sum >= mark) {
                return what == 0 ? k : members;
            }
            int next = scales.ranked(k);
            if (isPlace(next)) {
                members |= 1 << next;
                sum += scales.now[next];
            }
        }
        return NONE;
    }

    public int swings(int thing, int above, int below) {
        if (scales.total <= 0 || !isThing(thing) || !isQuota(above, below)) {
            return NONE;
        }
        long mark = ceiling((long) above * scales.total, below);
        long low = mark - scales.now[thing];
        int sets = 1 << (scales.things - 1);
        long sum = 0;
        int swung = sum < mark && sum >= low ? 1 : 0;
        // Gray's order: from one set of the others to the next a single one comes or goes.
        for (int i = 1; i < sets; i++) {
            int place = Integer.numberOfTrailingZeros(i);
            int other = place < thing ? place : place + 1;
            int part = isPlace(other) ? scales.now[other] : 0;
            boolean comes = ((i ^ i >>> 1) >>> place & 1) != 0;
            sum += comes ? part : -part;
            if (sum < mark && sum >= low) {
                swung++;
            }
        }
        return swung;
    }

    // ---- bits

    public int tries(int way, int what) {
        return triedOnTape(way, isWay(way) ? ALL : 0, what);
    }

    /** A mask without weight answers NONE, so that callers tell by 0 what can't be. */
    private int triedOnTape(int kind, int mask, int what) {
        int length = tape.length;
        tape.length = 0;
        if (scales.together(mask) == 0 || length > TRY_BYTES || what < 0 || what > 1) {
            return NONE;
        }
        tapeBits.start(0, 8 * length);
        int result = picker.play(kind, mask, tapeBits);
        if (what == 0) {
            return result;
        }
        return result == OPEN ? 8 * length : tapeBits.taken();
    }

    public int band(int thing, int what) {
        int b = isThing(thing) ? scales.band[thing] : NONE;
        if (b < 0 || b >= BANDS) {
            return NONE;
        }
        switch (what) {
            case 0: return b;
            case 1: return scales.bandSize[b];
            case 2: return scales.bandSum[b];
            default: return NONE;
        }
    }

    public int deals(int k) {
        int length = tape.length;
        tape.length = 0;
        if (scales.total <= 0 || k < 0 || length > TRY_BYTES) {
            return NONE;
        }
        tapeBits.start(0, 8 * length);
        int left = ALL;
        int dealt = NONE;
        for (int i = 0; i <= k && i <= MOST_THINGS; i++) {
            dealt = picker.among(left, tapeBits);
            if (dealt < 0) {
                return dealt;
            }
            left &= ~(1 << dealt);
        }
        return dealt;
    }

    public int pairs(int k, int first, int other) {
        if (scales.total <= 0 || !isRowSize(k) || !isThing(first) || !isThing(other)) {
            return NONE;
        }
        return countRows(BY_PAIR, ALL, k, pairOf(first, other));
    }

    public int rows(int way, int k, int thing) {
        if (scales.total <= 0 || !isWay(way) || !isRowSize(k) || thing != NONE && !isThing(thing)) {
            return NONE;
        }
        return countRows(way, ALL, k, thing == NONE ? OPEN : thing);
    }

    private int countRows(int kind, int mask, int k, int wanted) {
        int sum = 0;
        walk.start(k);
        for (int i = 0; i < 1 << MOST_ROW_BITS && walk.next(picker, kind, mask); i++) {
            if (walk.result == wanted) {
                sum += walk.span;
            }
        }
        return sum;
    }

    public int fewest(int way, int thing, int what) {
        if (scales.total <= 0 || !isWay(way) || !isThing(thing) || what < 0 || what > 1) {
            return NONE;
        }
        int least = NONE;
        int row = NONE;
        walk.start(MOST_ROW_BITS);
        for (int i = 0; i < 1 << MOST_ROW_BITS && walk.next(picker, way, ALL); i++) {
            if (walk.result == thing && (least == NONE || walk.used < least)) {
                least = walk.used;
                row = walk.row >> (MOST_ROW_BITS - walk.used);
            }
        }
        return what == 0 ? least : row;
    }

    public int longest(int way, int k, int what) {
        if (scales.total <= 0 || !isWay(way) || !isRowSize(k) || what < 0 || what > 1) {
            return NONE;
        }
        int most = NONE;
        int row = NONE;
        walk.start(k);
        for (int i = 0; i < 1 << MOST_ROW_BITS && walk.next(picker, way, ALL); i++) {
            if (walk.result >= 0 && walk.used > most) {
                most = walk.used;
                row = walk.row;
            }
        }
        return what == 0 ? row : most;
    }

    // ---- what was seen

    public int see(int unknown) {
        boolean good = isThing(unknown) && seen.canBe(tape, scales.things);
        if (good) {
            seen.learn(tape, unknown);
        }
        tape.length = 0;
        return good ? seen.count : refuse(5);
    }

    public int fits(int k) {
        if (seen.count == 0) {
            return NONE;
        }
        int guesses = seen.guesses(state);
        if (k == NONE) {
            return Integer.bitCount(guesses);
        }
        int left = k;
        for (int guess = 0; guess < GUESSES && left >= 0; guess++) {
            if ((guesses >>> guess & 1) != 0) {
                if (left == 0) {
                    return guess;
                }
                left--;
            }
        }
        return NONE;
    }

    public int tells(int what) {
        if (seen.count == 0 || what < 0 || what > 1) {
            return NONE;
        }
        int guesses = seen.guesses(state);
        if (guesses == 0) {
            return NONE;
        }
        seen.sortOut(state, guesses, walk);
        int byteFound = 0;
        int fewestLeft = seen.mostLeft(0);
        for (int b = 1; b < BYTES; b++) {
            int left = seen.mostLeft(b);
            if (left < fewestLeft) {
                byteFound = b;
                fewestLeft = left;
            }
        }
        return what == 0 ? byteFound : fewestLeft;
    }

    // ---- acts

    public int set(int thing, int high, int low) {
        int parts = judge(thing, high, low);
        if (parts < 0) {
            return refuse(2);
        }
        history.keep(state);
        state.now[thing] = parts;
        settle();
        return parts;
    }

    /** The 1024ths that a double's bits tell; NONE, with the reason kept, if they are refused. */
    private int judge(int thing, int high, int low) {
        if (!isThing(thing)) {
            return turnDown(1, 0);
        }
        int exponent = high >>> 20 & 2047;
        long digits = (long) (high & 0xFFFFF) << 32 | low & 0xFFFFFFFFL;
        if (exponent == 2047) {
            return turnDown(digits != 0 ? 2 : 3, 0);
        }
        if (exponent > 0) {
            digits |= 1L << 52;
        }
        if (high < 0 && digits != 0) {
            return turnDown(4, 0);
        }
        return judgeSize(thing, digits, 1065 - Math.max(exponent, 1));
    }

    /** The 1024ths are digits, of which so many bits lie behind the point. */
    private int judgeSize(int thing, long digits, int behind) {
        if (behind <= 0) {
            return turnDown(5, 1);
        }
        long whole = behind < 63 ? digits >>> behind : 0;
        boolean broken = behind < 63 ? (digits & (1L << behind) - 1) != 0 : digits != 0;
        if (whole > MOST_WEIGHT || whole == MOST_WEIGHT && broken) {
            return turnDown(5, whole > MOST_INT ? 1 : 0);
        }
        if (broken) {
            return turnDown(6, whole == 0 ? 2 : 0);
        }
        if (whole == scales.now[thing]) {
            return turnDown(7, 0);
        }
        return (int) whole;
    }

    private int turnDown(int newReason, int newCause) {
        reason = newReason;
        cause = newCause;
        return NONE;
    }

    public int why(int what) {
        if (what == 0) {
            return reason;
        }
        return what == 1 ? cause : NONE;
    }

    public boolean merge(int n) {
        if (!plan.told || n < 0 || n > MOST_LIMIT || n == state.limit) {
            return deny(3);
        }
        history.keep(state);
        state.limit = n;
        settle();
        return true;
    }

    public boolean merged() {
        if (scales.unlike == 0) {
            return deny(3);
        }
        history.keep(state);
        mergeNow();
        return true;
    }

    private void settle() {
        scales.renew(state);
        if (mustMerge(scales.unlike, scales.loss)) {
            mergeNow();
        }
    }

    private boolean mustMerge(int unlike, int loss) {
        return unlike > state.limit || 4 * loss > scales.base;
    }

    private void mergeNow() {
        System.arraycopy(state.now, 0, state.old, 0, MOST_THINGS);
        state.mergings++;
        scales.renew(state);
    }

    public int store() {
        int length = tape.length;
        tape.length = 0;
        if (!plan.told || length == 0 || state.to - state.from + 8 * length > STORE_BITS) {
            return refuse(3);
        }
        history.keep(state);
        state.closeUp();
        for (int i = 0; i < length; i++) {
            putByte(state.words, state.to / 8, byteAt(tape.words, i));
            state.to += 8;
        }
        return state.to - state.from;
    }

    public int pick(int way) {
        if (scales.total <= 0 || !isWay(way)) {
            return refuse(2);
        }
        storedBits.start(state.from, state.to);
        int picked = picker.play(way, ALL, storedBits);
        if (!isPlace(picked)) {
            return picked;
        }
        history.keep(state);
        state.from += storedBits.taken();
        state.taken += storedBits.taken();
        state.count[picked]++;
        return picked;
    }

    public int chance(int n, int way) {
        if (scales.total <= 0 || !isWay(way) || n < 1 || n > MOST_PICKS) {
            return refuse(2);
        }
        int seedAhead = seedBits.x;
        int bitsTaken = 0;
        int picked = OPEN;
        Arrays.fill(tally, 0);
        for (int i = 0; i < n; i++) {
            seedBits.start(0, MOST_INT);
            picked = picker.play(way, ALL, seedBits);
            if (!isPlace(picked)) {
                seedBits.x = seedAhead;
                return picked;
            }
            bitsTaken += seedBits.taken();
            tally[picked]++;
        }
        history.keep(state);
        state.taken += bitsTaken;
        for (int i = 0; i < MOST_THINGS; i++) {
            state.count[i] += tally[i];
        }
        return picked;
    }

    public boolean undo() {
        if (!history.goBack(state)) {
            return deny(4);
        }
        scales.renew(state);
        return true;
    }

    public boolean seed(int seed) {
        if (seed < 0) {
            return deny(5);
        }
        seedBits.x = seed;
        return true;
    }

    // ---- images, refusals

    public int image() {
        pictureSize = 0;
        draw(state.limit);
        for (int i = 0; i < state.things; i++) {
            drawWord(state.old[i]);
            drawWord(state.now[i]);
        }
        int check = CHECK_START;
        for (int i = 0; i < pictureSize && i < MOST_IMAGE; i++) {
            check = nextCheck(check, picture[i]);
        }
        draw(check);
        return pictureSize;
    }

    private void draw(int value) {
        if (pictureSize < MOST_IMAGE) {
            picture[pictureSize] = value & 255;
            pictureSize++;
        }
    }

    private void drawWord(int value) {
        draw(value >>> 24);
        draw(value >>> 16);
        draw(value >>> 8);
        draw(value);
    }

    public int octet(int k) {
        return k >= 0 && k < pictureSize && k < MOST_IMAGE ? picture[k] : NONE;
    }

    public boolean on() {
        boolean good = plan.told && isImage();
        if (good) {
            state.limit = byteAt(tape.words, 0);
            for (int i = 0; i < state.things; i++) {
                state.old[i] = tape.wordFrom(1 + 8 * i);
                state.now[i] = tape.wordFrom(5 + 8 * i);
            }
            state.forget();
            history.count = 0;
            scales.renew(state);
        }
        tape.length = 0;
        return good || deny(5);
    }

    private boolean isImage() {
        int size = 2 + 8 * scales.things;
        if (tape.length != size || byteAt(tape.words, 0) > MOST_LIMIT) {
            return false;
        }
        for (int i = 0; i < 2 * scales.things; i++) {
            if (!isWeight(tape.wordFrom(1 + 4 * i))) {
                return false;
            }
        }
        int check = CHECK_START;
        for (int i = 0; i < size - 1; i++) {
            check = nextCheck(check, byteAt(tape.words, i));
        }
        return check == byteAt(tape.words, size - 1);
    }

    public int status(int what) {
        return what >= 0 && what < refused.length ? refused[what] : NONE;
    }

    private int refuse(int kind) {
        if (kind >= 0 && kind < refused.length) {
            refused[kind]++;
        }
        return NONE;
    }

    private boolean deny(int kind) {
        refuse(kind);
        return false;
    }

    // ---- what can be

    private boolean isThing(int thing) {
        return thing >= 0 && thing < scales.things && thing < MOST_THINGS;
    }

    private boolean isTeam(int team) {
        return team >= 0 && team < plan.teams && team < MOST_TEAMS;
    }

    /** Whether rows kept for things have such an element. */
    private static boolean isPlace(int i) {
        return i >= 0 && i < MOST_THINGS;
    }

    private static boolean isWay(int way) {
        return way >= BY_TABLE && way <= BY_BANDS;
    }

    private static boolean isRowSize(int k) {
        return k >= 0 && k <= MOST_ROW_BITS;
    }

    private static boolean isWeight(int weight) {
        return weight >= 0 && weight <= MOST_WEIGHT;
    }

    private static boolean isQuota(int above, int below) {
        return above >= 0 && above <= MOST_TERM && below >= 1 && below <= MOST_TERM;
    }

    // ---- numbers

    private static int lowest(int above, int below, int what) {
        if (below <= 0 || what < 0 || what > 1) {
            return NONE;
        }
        int common = commonDivisor(above, below);
        if (common <= 0) {
            return NONE;
        }
        return what == 0 ? above / common : below / common;
    }

    private static int commonDivisor(int a, int b) {
        int x = a;
        int y = b;
        // Numbers below 2 to the 31 need less than 50 steps.
        for (int i = 0; i < 100 && y != 0; i++) {
            int rest = x % y;
            x = y;
            y = rest;
        }
        return x;
    }

    private static long ceiling(long above, long below) {
        return below > 0 ? (above + below - 1) / below : 0;
    }

    private static int nextCheck(int check, int value) {
        return (CHECK_FACTOR * check + value) % CHECK_MODULUS;
    }

    private static int pairOf(int first, int other) {
        return first * MOST_THINGS + other;
    }

    private static int letterOf(int name, int k) {
        if (k < 0 || k >= MOST_LETTERS) {
            return NONE;
        }
        return name >> LETTER_BITS * (MOST_LETTERS - 1 - k) & 31;
    }

    private static int byteAt(int[] words, int k) {
        int word = k >> 2;
        return word >= 0 && word < words.length ? words[word] >>> 24 - 8 * (k & 3) & 255 : NONE;
    }

    private static void putByte(int[] words, int k, int value) {
        int word = k >> 2;
        if (word >= 0 && word < words.length) {
            int shift = 24 - 8 * (k & 3);
            words[word] = words[word] & ~(255 << shift) | (value & 255) << shift;
        }
    }

    /** The bytes that came, four to a word. */
    private static final class Tape {
        private final int[] words = new int[TAPE_BYTES / 4];
        private int length;

        void add(int word) {
            for (int shift = 24; shift >= 0; shift -= 8) {
                putByte(words, length, word >>> shift);
                length++;
            }
        }

        int wordFrom(int k) {
            int high = byteAt(words, k) << 24 | byteAt(words, k + 1) << 16;
            return high | byteAt(words, k + 2) << 8 | byteAt(words, k + 3);
        }
    }

    /** What a text tells. A NAME is kept as one number, five bits a letter. */
    private static final class Plan {
        private final int[] names = new int[MOST_THINGS];
        private final int[] weights = new int[MOST_THINGS];
        private final int[] teamNames = new int[MOST_TEAMS];
        private final int[] masks = new int[MOST_TEAMS];
        private boolean told;
        private int limit;
        private int things;
        private int teams;

        void copy(Plan other) {
            System.arraycopy(other.names, 0, names, 0, MOST_THINGS);
            System.arraycopy(other.weights, 0, weights, 0, MOST_THINGS);
            System.arraycopy(other.teamNames, 0, teamNames, 0, MOST_TEAMS);
            System.arraycopy(other.masks, 0, masks, 0, MOST_TEAMS);
            limit = other.limit;
            things = other.things;
            teams = other.teams;
        }

        int find(int name) {
            for (int i = 0; i < things && i < MOST_THINGS; i++) {
                if (names[i] == name) {
                    return i;
                }
            }
            return NONE;
        }

        boolean isTaken(int name) {
            for (int i = 0; i < teams && i < MOST_TEAMS; i++) {
                if (teamNames[i] == name) {
                    return true;
                }
            }
            return find(name) != NONE;
        }

        void addThing(int name, int weight) {
            if (things < MOST_THINGS) {
                names[things] = name;
                weights[things] = weight;
                things++;
            }
        }

        void addTeam(int name, int mask) {
            if (teams < MOST_TEAMS) {
                teamNames[teams] = name;
                masks[teams] = mask;
                teams++;
            }
        }
    }

    /** Reads the tape as a text into a plan of its own: with a fault the wheel must stay as it is. */
    private static final class Reader {
        private final Tape tape;
        private final Plan plan = new Plan();
        private int at;
        private int from;
        private int size;
        private int value;
        private boolean apart;
        private int fault;
        private int place = NONE;

        Reader(Tape tape) {
            this.tape = tape;
        }

        int readAll() {
            at = 0;
            fault = 0;
            place = NONE;
            plan.things = 0;
            plan.teams = 0;
            if (!readHead()) {
                return NONE;
            }
            int statements = 1;
            for (int i = 0; i < TAPE_BYTES; i++) {
                skipBlanks();
                if (at >= tape.length) {
                    break;
                }
                readWord();
                boolean good = isWord("thing") ? readThing() : isWord("team") ? readTeam() : fail(1, from);
                if (!good) {
                    return NONE;
                }
                statements++;
            }
            return statements;
        }

        private boolean fail(int newFault, int newPlace) {
            fault = newFault;
            place = newPlace;
            return false;
        }

        private boolean readHead() {
            if (!readKeyword("wheel") || !readKeyword("merge") || !readNumber()) {
                return false;
            }
            if (value > MOST_LIMIT) {
                return fail(2, from);
            }
            plan.limit = value;
            return readSign(';');
        }

        private boolean readThing() {
            if (plan.things >= MOST_THINGS) {
                return fail(5, from);
            }
            if (!readName(true)) {
                return false;
            }
            int name = value;
            if (!readKeyword("weighs") || !readNumber()) {
                return false;
            }
            int weight = value * UNIT;
            skipBlanks();
            // A word that touches the number is none that could follow it.
            if (apart && isLetter(sign())) {
                if (!readKeyword("by") || !readNumber()) {
                    return false;
                }
                if (value < 1 || value > UNIT || (value & value - 1) != 0) {
                    return fail(2, from);
                }
                weight /= value;
            }
            plan.addThing(name, weight);
            return readSign(';');
        }

        private boolean readTeam() {
            if (plan.teams >= MOST_TEAMS) {
                return fail(5, from);
            }
            if (!readName(true)) {
                return false;
            }
            int name = value;
            if (!readKeyword("of")) {
                return false;
            }
            int mask = 0;
            // A 17th NAME is unknown or told twice.
            for (int i = 0; i <= MOST_THINGS; i++) {
                if (!readName(false)) {
                    return false;
                }
                int thing = plan.find(value);
                if (thing == NONE || (mask >> thing & 1) != 0) {
                    return fail(3, from);
                }
                mask |= 1 << thing;
                skipBlanks();
                if (sign() != ',') {
                    break;
                }
                at++;
            }
            plan.addTeam(name, mask);
            return readSign(';');
        }

        private boolean readName(boolean given) {
            readWord();
            if (size == 0 || isOwnWord()) {
                return fail(1, from);
            }
            if (size > MOST_LETTERS) {
                return fail(1, from + MOST_LETTERS);
            }
            value = 0;
            for (int i = 0; i < MOST_LETTERS; i++) {
                int letter = i < size ? byteAt(tape.words, from + i) - 'a' + 1 : 0;
                value = value << LETTER_BITS | letter;
            }
            return !given || !plan.isTaken(value) || fail(3, from);
        }

        private boolean readKeyword(String word) {
            readWord();
            return isWord(word) || fail(1, from);
        }

        private void readWord() {
            skipBlanks();
            from = at;
            while (at < tape.length && isLetter(sign())) {
                at++;
            }
            size = at - from;
        }

        /** A number stands behind a word always, so that one that is not apart touches it. */
        private boolean readNumber() {
            skipBlanks();
            from = at;
            if (!apart || !isDigit(sign())) {
                return fail(1, from);
            }
            value = 0;
            while (at < tape.length && isDigit(sign())) {
                if (at - from == 4) {
                    return fail(1, at);
                }
                value = value * 10 + sign() - '0';
                at++;
            }
            return true;
        }

        private boolean readSign(char wanted) {
            skipBlanks();
            if (sign() != wanted) {
                return fail(1, at);
            }
            at++;
            return true;
        }

        private void skipBlanks() {
            int start = at;
            while (at < tape.length && (sign() == ' ' || sign() == '\n')) {
                at++;
            }
            apart = at > start;
        }

        private int sign() {
            return at < tape.length ? byteAt(tape.words, at) : NONE;
        }

        private boolean isOwnWord() {
            return isWord("wheel") || isWord("merge") || isWord("thing") || isWord("weighs")
                    || isWord("by") || isWord("team") || isWord("of");
        }

        private boolean isWord(String word) {
            if (word.length() != size) {
                return false;
            }
            for (int i = 0; i < word.length(); i++) {
                if (byteAt(tape.words, from + i) != word.charAt(i)) {
                    return false;
                }
            }
            return true;
        }

        private static boolean isLetter(int sign) {
            return sign >= 'a' && sign <= 'z';
        }

        private static boolean isDigit(int sign) {
            return sign >= '0' && sign <= '9';
        }
    }

    /** All that an ACT can change, so that a copy of it is all that undoing needs. */
    private static final class State {
        private final int[] old = new int[MOST_THINGS];
        private final int[] now = new int[MOST_THINGS];
        private final int[] count = new int[MOST_THINGS];
        private final int[] words = new int[STORE_WORDS];
        private int things;
        private int limit;
        private int mergings;
        private int taken;
        private int from;
        private int to;

        void begin(Plan plan) {
            things = Math.min(plan.things, MOST_THINGS);
            limit = plan.limit;
            System.arraycopy(plan.weights, 0, old, 0, MOST_THINGS);
            System.arraycopy(plan.weights, 0, now, 0, MOST_THINGS);
            mergings = 0;
            taken = 0;
            forget();
        }

        void forget() {
            Arrays.fill(count, 0);
            from = 0;
            to = 0;
        }

        void copy(State other) {
            System.arraycopy(other.old, 0, old, 0, MOST_THINGS);
            System.arraycopy(other.now, 0, now, 0, MOST_THINGS);
            System.arraycopy(other.count, 0, count, 0, MOST_THINGS);
            System.arraycopy(other.words, 0, words, 0, STORE_WORDS);
            things = other.things;
            limit = other.limit;
            mergings = other.mergings;
            taken = other.taken;
            from = other.from;
            to = other.to;
        }

        /** Bits that went make room for others, a word at a time. */
        void closeUp() {
            int gone = from / 32;
            if (gone > 0 && gone <= STORE_WORDS) {
                System.arraycopy(words, gone, words, 0, STORE_WORDS - gone);
                from -= 32 * gone;
                to -= 32 * gone;
            }
        }

        int allCounts(int mask) {
            int sum = 0;
            for (int i = 0; i < things && i < MOST_THINGS; i++) {
                if ((mask >> i & 1) != 0) {
                    sum += count[i];
                }
            }
            return sum;
        }
    }

    /** The states ahead of the last acts, in a ring; its rows are made when they are first needed. */
    private static final class History {
        private final State[] ring = new State[MOST_ACTS];
        private int next;
        private int count;

        void keep(State state) {
            if (next < 0 || next >= MOST_ACTS) {
                next = 0;
            }
            if (ring[next] == null) {
                ring[next] = new State();
            }
            ring[next].copy(state);
            next = (next + 1) % MOST_ACTS;
            count = Math.min(count + 1, MOST_ACTS);
        }

        boolean goBack(State state) {
            int last = (next + MOST_ACTS - 1) % MOST_ACTS;
            if (count == 0 || last < 0 || ring[last] == null) {
                return false;
            }
            state.copy(ring[last]);
            next = last;
            count--;
            return true;
        }
    }

    /** What follows from the weights of a state: sums, GRAIN, BANDS, THE TABLE. */
    private static final class Scales {
        private final int[] old = new int[MOST_THINGS];
        private final int[] now = new int[MOST_THINGS];
        private final int[] part = new int[MOST_THINGS];
        private final int[] band = new int[MOST_THINGS];
        private final int[] bandSize = new int[BANDS];
        private final int[] bandSum = new int[BANDS];
        private final int[] own = new int[MOST_THINGS];
        private final int[] alias = new int[MOST_THINGS];
        private int things;
        private int total;
        private int base;
        private int gain;
        private int loss;
        private int unlike;
        private int grain;

        void renew(State state) {
            weigh(state, NONE, 0);
            makeBands();
            makeTable();
        }

        /** The weight of one thing may be a guess; what the guess does not need is left as it was. */
        void weigh(State state, int unknown, int guess) {
            things = Math.min(state.things, MOST_THINGS);
            total = 0;
            base = 0;
            gain = 0;
            loss = 0;
            unlike = 0;
            int common = 0;
            for (int i = 0; i < things; i++) {
                old[i] = state.old[i];
                now[i] = i == unknown ? guess : state.now[i];
                total += now[i];
                base += old[i];
                gain += more(i);
                loss += less(i);
                unlike += old[i] != now[i] ? 1 : 0;
                common = commonDivisor(commonDivisor(common, old[i]), now[i]);
            }
            grain = Math.max(common, 1);
            for (int i = 0; i < things; i++) {
                part[i] = byGrain(now[i]);
            }
        }

        private void makeBands() {
            Arrays.fill(bandSize, 0);
            Arrays.fill(bandSum, 0);
            for (int i = 0; i < things; i++) {
                int b = 31 - Integer.numberOfLeadingZeros(part[i]);
                band[i] = b < BANDS ? b : NONE;
                if (b >= 0 && b < BANDS) {
                    bandSize[b]++;
                    bandSum[b] += part[i];
                }
            }
        }

        /** OWN holds the REST until all are closed; what is left open has T by then. */
        private void makeTable() {
            for (int i = 0; i < things; i++) {
                own[i] = things * old[i];
                alias[i] = i;
            }
            int closed = 0;
            for (int k = 0; k < things; k++) {
                int poor = firstPoor(closed);
                int rich = firstRich();
                if (poor == NONE || rich == NONE) {
                    break;
                }
                closed |= 1 << poor;
                alias[poor] = rich;
                own[rich] -= base - own[poor];
            }
        }

        private int firstPoor(int closed) {
            for (int i = 0; i < things; i++) {
                if ((closed >> i & 1) == 0 && own[i] < base) {
                    return i;
                }
            }
            return NONE;
        }

        private int firstRich() {
            for (int i = 0; i < things; i++) {
                if (own[i] > base) {
                    return i;
                }
            }
            return NONE;
        }

        int columns() {
            return base > 0 ? things : 0;
        }

        int more(int thing) {
            return Math.max(0, now[thing] - old[thing]);
        }

        int less(int thing) {
            return Math.max(0, old[thing] - now[thing]);
        }

        int byGrain(int weight) {
            return grain > 0 ? weight / grain : 0;
        }

        int together(int mask) {
            int sum = 0;
            for (int i = 0; i < things; i++) {
                sum += (mask >> i & 1) != 0 ? now[i] : 0;
            }
            return sum;
        }

        int greatest(int mask) {
            int found = NONE;
            for (int i = 0; i < things; i++) {
                if ((mask >> i & 1) != 0 && (found == NONE || now[i] > now[found])) {
                    found = i;
                }
            }
            return found;
        }

        int ranked(int k) {
            for (int i = 0; i < things; i++) {
                int ahead = 0;
                for (int j = 0; j < things; j++) {
                    ahead += now[j] > now[i] || now[j] == now[i] && j < i ? 1 : 0;
                }
                if (ahead == k) {
                    return i;
                }
            }
            return NONE;
        }
    }

    /** Bits of packed words, taken in order. */
    private static class Bits {
        private final int[] words;
        private int begin;
        private int at;
        private int end;

        Bits(int[] words) {
            this.words = words;
        }

        final void start(int first, int behind) {
            begin = first;
            at = first;
            end = behind;
        }

        final int taken() {
            return at - begin;
        }

        /** A DRAW of m; OPEN, if the bits run out. Only whole numbers of bits that it needs are taken. */
        final int draw(int m) {
            if (m <= 0) {
                return OPEN;
            }
            int need = 32 - Integer.numberOfLeadingZeros(m - 1);
            for (int i = 0; i < MOST_ROUNDS && end - at >= need; i++) {
                int x = next(need);
                at += need;
                if (x < m) {
                    return x;
                }
            }
            return OPEN;
        }

        /** The next bits as a number, at most 32. */
        int next(int need) {
            int word = at >> 5;
            if (need < 1 || word < 0 || word >= words.length) {
                return 0;
            }
            long two = (long) words[word] << 32;
            if (word + 1 < words.length) {
                two |= words[word + 1] & 0xFFFFFFFFL;
            }
            return (int) (two << (at & 31) >>> 64 - need);
        }
    }

    /** Bits by the seed: there are always more, so that only their count has an end. */
    private static final class SeedBits extends Bits {
        private int x;

        SeedBits() {
            super(new int[0]);
        }

        int next(int need) {
            int number = 0;
            for (int i = 0; i < need; i++) {
                x = 1103515245 * x + 12345 & MOST_INT;
                number = number << 1 | x >>> 16 & 1;
            }
            return number;
        }
    }

    /** PICKS by scales: a THING, OPEN, or NONE when there is no weight. */
    private static final class Picker {
        private final Scales scales;

        Picker(Scales scales) {
            this.scales = scales;
        }

        int play(int kind, int mask, Bits bits) {
            if (scales.total <= 0) {
                return NONE;
            }
            switch (kind) {
                case BY_TABLE: return byTable(bits);
                case BY_PARTS: return among(mask, bits);
                case BY_BANDS: return byBands(bits);
                case BY_PAIR: return byPair(mask, bits);
                default: return NONE;
            }
        }

        int among(int mask, Bits bits) {
            int sum = 0;
            for (int i = 0; i < scales.things; i++) {
                sum += (mask >> i & 1) != 0 ? scales.part[i] : 0;
            }
            if (sum <= 0) {
                return NONE;
            }
            int x = bits.draw(sum);
            for (int i = 0; i < scales.things && x >= 0; i++) {
                if ((mask >> i & 1) != 0) {
                    if (x < scales.part[i]) {
                        return i;
                    }
                    x -= scales.part[i];
                }
            }
            return OPEN;
        }

        /** Two things of a DEAL as one number. */
        private int byPair(int mask, Bits bits) {
            int first = among(mask, bits);
            if (first < 0) {
                return first;
            }
            int other = among(mask & ~(1 << first), bits);
            return other < 0 ? other : pairOf(first, other);
        }

        private int byTable(Bits bits) {
            int base = scales.byGrain(scales.base);
            int whole = scales.byGrain(scales.base + scales.gain);
            for (int round = 0; round < MOST_ROUNDS; round++) {
                int x = bits.draw(whole);
                if (x < 0) {
                    return OPEN;
                }
                if (x >= base) {
                    return inMore(x - base);
                }
                int met = byColumn(base, bits);
                if (!isPlace(met)) {
                    return OPEN;
                }
                int less = scales.byGrain(scales.less(met));
                int lost = less > 0 ? bits.draw(scales.byGrain(scales.old[met])) : 0;
                if (lost < 0) {
                    return OPEN;
                }
                if (lost >= less) {
                    return met;
                }
            }
            return OPEN;
        }

        private int byColumn(int base, Bits bits) {
            int column = bits.draw(scales.columns());
            if (!isPlace(column)) {
                return OPEN;
            }
            int x = bits.draw(base);
            if (x < 0) {
                return OPEN;
            }
            return x < scales.byGrain(scales.own[column]) ? column : scales.alias[column];
        }

        private int inMore(int place) {
            int left = place;
            for (int i = 0; i < scales.things; i++) {
                int more = scales.byGrain(scales.more(i));
                if (left < more) {
                    return i;
                }
                left -= more;
            }
            return OPEN;
        }

        private int byBands(Bits bits) {
            int x = bits.draw(scales.byGrain(scales.total));
            if (x < 0) {
                return OPEN;
            }
            int b = 0;
            while (b < BANDS - 1 && x >= scales.bandSum[b]) {
                x -= scales.bandSum[b];
                b++;
            }
            for (int round = 0; round < MOST_ROUNDS; round++) {
                int k = bits.draw(scales.bandSize[b]);
                int y = k < 0 ? OPEN : bits.draw(2 << b);
                if (y < 0) {
                    return OPEN;
                }
                int met = inBand(b, k);
                if (isPlace(met) && y < scales.part[met]) {
                    return met;
                }
            }
            return OPEN;
        }

        private int inBand(int b, int k) {
            int left = k;
            for (int i = 0; i < scales.things; i++) {
                if (scales.band[i] == b) {
                    if (left == 0) {
                        return i;
                    }
                    left--;
                }
            }
            return NONE;
        }
    }

    /**
     * Goes through the ROWS of so many bits in their order, a run of them at a time: those that have all
     * bits in common that a PICK took come to the same.
     */
    private static final class Walk {
        private final int[] line = new int[1];
        private final Bits bits = new Bits(line);
        private int size;
        private int row;
        private int span;
        private int used;
        private int result;

        void start(int k) {
            size = k;
            row = 0;
            span = 0;
        }

        boolean next(Picker picker, int kind, int mask) {
            row += span;
            if (row >= 1 << size) {
                return false;
            }
            line[0] = size > 0 ? row << 32 - size : 0;
            bits.start(0, size);
            result = picker.play(kind, mask, bits);
            used = bits.taken();
            span = 1 << size - used;
            return true;
        }
    }

    /** What is SEEN, and which guesses it leaves. */
    private static final class Seen {
        private final int[] rowBits = new int[MOST_SEEN];
        private final int[] rowThing = new int[MOST_SEEN];
        private final Scales trial = new Scales();
        private final Picker picker = new Picker(trial);
        private final int[] line = new int[1];
        private final Bits bits = new Bits(line);
        private int[] sorted;
        private int count;
        private int unknown;

        boolean canBe(Tape tape, int things) {
            if (tape.length < 2 || tape.length > 2 * MOST_SEEN || tape.length % 2 != 0) {
                return false;
            }
            for (int i = 1; i < tape.length; i += 2) {
                int thing = byteAt(tape.words, i);
                if (thing >= things && thing != SEEN_OPEN) {
                    return false;
                }
            }
            return true;
        }

        void learn(Tape tape, int newUnknown) {
            unknown = newUnknown;
            count = Math.min(tape.length / 2, MOST_SEEN);
            for (int i = 0; i < count; i++) {
                int thing = byteAt(tape.words, 2 * i + 1);
                rowBits[i] = byteAt(tape.words, 2 * i);
                rowThing[i] = thing == SEEN_OPEN ? OPEN : thing;
            }
        }

        /** FITS, as bits. */
        int guesses(State state) {
            int found = 0;
            for (int guess = 0; guess < GUESSES; guess++) {
                trial.weigh(state, unknown, guess * UNIT);
                if (trial.total > 0 && explainsAll()) {
                    found |= 1 << guess;
                }
            }
            return found;
        }

        private boolean explainsAll() {
            for (int i = 0; i < count && i < MOST_SEEN; i++) {
                line[0] = rowBits[i] << 24;
                bits.start(0, SEEN_BITS);
                if (picker.among(ALL, bits) != rowThing[i]) {
                    return false;
                }
            }
            return true;
        }

        /** For each byte, how many of the guesses come to each THING by it, last to OPEN. */
        void sortOut(State state, int guesses, Walk walk) {
            if (sorted == null) {
                sorted = new int[BYTES * (MOST_THINGS + 1)];
            }
            Arrays.fill(sorted, 0);
            for (int guess = 0; guess < GUESSES; guess++) {
                if ((guesses >>> guess & 1) != 0) {
                    trial.weigh(state, unknown, guess * UNIT);
                    walk.start(SEEN_BITS);
                    for (int i = 0; i < BYTES && walk.next(picker, BY_PARTS, ALL); i++) {
                        countRun(walk.row, walk.span, walk.result);
                    }
                }
            }
        }

        private void countRun(int first, int span, int result) {
            int kind = result < 0 || result >= MOST_THINGS ? MOST_THINGS : result;
            for (int b = first; b < first + span && b < BYTES; b++) {
                sorted[b * (MOST_THINGS + 1) + kind]++;
            }
        }

        int mostLeft(int b) {
            int most = 0;
            for (int kind = 0; kind <= MOST_THINGS; kind++) {
                int place = b * (MOST_THINGS + 1) + kind;
                if (sorted != null && place >= 0 && place < sorted.length) {
                    most = Math.max(most, sorted[place]);
                }
            }
            return most;
        }
    }
}
