/** Who goes red, from when, how long and through whom: the promises stand in ../shared/DOC.md. */
public final class GoneRed {
    public static final int NONE = -1, BAD = -2, STATE = -3, FULL = -4;
    public static final long NO = -4611686018427387904L;

    private static final int NO_SUCH = -5, NOT_TOLD = -7, NO_SUCH_TWO = -100000;
    private static final int NOTHING = -11, OUTSIDE = -12, UNLIKE = -13, BELOW_ZERO = -14;

    private static final int MOST_FACES = 5, SEATS = 8, MOST_CAUSES = 8, MOST_TEXTS = 6;
    private static final int TAPE_ROOM = 160, LENGTH = 40, HOTTEST = 400, MOST_MORE = 9, MOST_LIGHT = 9;
    private static final int STOPS = 4, STOP_SECONDS = 20;
    private static final int SHEETS = 4, SHEET_ROOM = 40, FILM_PLACES = 8, FILM_STEP = 5;
    private static final int LAST_SEED = 99999, MOST_SEEDS = 20;
    private static final String FIRST_LAW =
        "warms glances * 4 + seen * 3 ; cools 3 ; looks seen or second < more ;";

    private final Texts texts = new Texts();
    private final Reader reader = new Reader(texts);
    private final Twist twist = new Twist();
    private final Seconds seconds = new Seconds(texts, twist);
    private final Scene now = new Scene();
    private final Scene thought = new Scene();
    private final Scene kept = new Scene();
    private final Sheets sheets = new Sheets();
    private boolean hasImage = false;

    public GoneRed() {
        for (int i = 0; i < FIRST_LAW.length(); i++) {
            reader.tape(FIRST_LAW.charAt(i));
        }
        reader.readTape();
    }

    // ---- the law

    public int count(int what) {
        switch (what) {
            case 0: return now.faces;
            case 1: return now.causes;
            case 2: return texts.held;
            case 3: return now.law;
            case 4: return reader.taped();
            default: return BAD;
        }
    }

    public int feed(int n, int a, int b, int c, int d, int e) {
        boolean bytes = isByte(a) && isByte(b) && isByte(c) && isByte(d) && isByte(e);
        if (n < 1 || n > 5 || !bytes) {
            return BAD;
        }
        if (reader.taped() + n > TAPE_ROOM) {
            return FULL;
        }
        for (int i = 0; i < n; i++) {
            reader.tape(i == 0 ? a : i == 1 ? b : i == 2 ? c : i == 3 ? d : e);
        }
        return reader.taped();
    }

    public int text() {
        if (texts.held >= MOST_TEXTS) {
            return FULL;
        }
        int fault = reader.readTape();
        return fault >= 0 ? -100 - fault : texts.held - 1;
    }

    public int force(int t) {
        if (t < 0 || t >= texts.held) {
            return BAD;
        }
        int was = now.law;
        now.law = t;
        return was;
    }

    public int asks(int part, int warm, int looksLight, int secondSeen, int more) {
        boolean known = isWithin(part, 2) && isWithin(warm, HOTTEST) && isWithin(looksLight, 49)
            && isWithin(secondSeen, 401) && secondSeen % 10 <= 1 && isWithin(more, MOST_MORE);
        if (!known) {
            return BAD;
        }
        seconds.names.tell(warm, looksLight % 10, secondSeen / 10, secondSeen % 10);
        seconds.names.tellLooks(looksLight / 10, more);
        if (part == Texts.LOOKS) {
            return texts.value(now.law, part, seconds.names.values) != 0 ? 1 : 0;
        }
        return texts.bounded(now.law, part, seconds.names.values);
    }

    // ---- faces, seats

    public int face(int kindMore, int warm, int s) {
        if (!isWithin(kindMore, 10 * Kind.LAST + 9) || !isWithin(warm, HOTTEST) || !isSeat(s)) {
            return BAD;
        }
        if (now.faces >= MOST_FACES) {
            return FULL;
        }
        if (now.sitterOf(s) >= 0) {
            return STATE;
        }
        return now.come(kindMore / 10, kindMore % 10, warm, s);
    }

    public int warm(int f, int v) {
        if (!now.has(f)) {
            return NO_SUCH;
        }
        if (!isWithin(v, HOTTEST)) {
            return NOT_TOLD;
        }
        int was = now.warmth[f];
        now.warmth[f] = v;
        return was;
    }

    public int sit(int f, int s) {
        if (!now.has(f)) {
            return NO_SUCH;
        }
        if (!isSeat(s)) {
            return NOT_TOLD;
        }
        int was = now.seat[f];
        now.move(f, s);
        return was;
    }

    public int lamp(int s, int v) {
        if (!isSeat(s)) {
            return NO_SUCH;
        }
        if (!isWithin(v, MOST_LIGHT)) {
            return NOT_TOLD;
        }
        int was = now.light[s];
        now.light[s] = v;
        return was;
    }

    public int told(int f, int what) {
        if (!now.has(f)) {
            return NO_SUCH;
        }
        switch (what) {
            case 0: return now.warmth[f];
            case 1: return now.seat[f];
            case 2: return now.kind[f];
            case 3: return now.more[f];
            case 4: return now.lightOf(f);
            case 5: return now.redFrom(f);
            default: return NOT_TOLD;
        }
    }

    // ---- causes

    public int cause(int at, int f, int much) {
        if (!now.has(f)) {
            return NO_SUCH;
        }
        if (!isSecond(at) || !isWithin(much, HOTTEST)) {
            return NOT_TOLD;
        }
        if (now.causes >= MOST_CAUSES) {
            return FULL;
        }
        return now.addCause(at, f, much);
    }

    public int uncause() {
        if (now.causes <= 0) {
            return STATE;
        }
        now.causes--;
        return now.causes;
    }

    public int causeTold(int k, int what) {
        if (k < 0 || k >= now.causes) {
            return NO_SUCH;
        }
        switch (what) {
            case 0: return now.causeSecond[k];
            case 1: return now.causeFace[k];
            case 2: return now.causeMuch[k];
            default: return NOT_TOLD;
        }
    }

    // ---- seconds

    public int at(int n, int f, int what) {
        if (!isWithin(n, LENGTH) || !now.has(f)) {
            return NO_SUCH;
        }
        if (!isWithin(what, 2)) {
            return NOT_TOLD;
        }
        playNow(f, n);
        switch (what) {
            case 0: return seconds.warmthBehind(n, f);
            case 1: return seconds.isRedBehind(n, f) ? 1 : 0;
            default: return seconds.lookedBehind(n, f);
        }
    }

    public int red(int f, int what) {
        if (!now.has(f)) {
            return NO_SUCH;
        }
        if (!isWithin(what, 4)) {
            return NOT_TOLD;
        }
        playNow(f, LENGTH);
        return redTold(f, what);
    }

    public int row(int n, int what) {
        if (!isWithin(n, LENGTH)) {
            return NO_SUCH;
        }
        if (!isWithin(what, 2)) {
            return NOT_TOLD;
        }
        playAllNow(n);
        switch (what) {
            case 0: return seconds.redBits(n);
            case 1: return seconds.warmthOfAll(n);
            default: return seconds.hottestBits(n);
        }
    }

    public int pass(int n) {
        if (!isWithin(n, LENGTH)) {
            return BAD;
        }
        playAllNow(n);
        for (int f = 0; f < now.faces && f < MOST_FACES; f++) {
            now.warmth[f] = seconds.warmthBehind(n, f);
        }
        return Integer.bitCount(seconds.redBits(n));
    }

    public int dies(int f) {
        if (!now.has(f)) {
            return NO_SUCH;
        }
        playNow(f, LENGTH);
        if (seconds.mostWarmth(f) >= HOTTEST) {
            return 2;
        }
        return seconds.isRedBehind(LENGTH, f) ? 1 : 0;
    }

    public int line(int f) {
        if (!now.has(f)) {
            return NO_SUCH;
        }
        for (int v = HOTTEST - 10; v >= 0; v -= 10) {
            thought.become(now);
            thought.warmth[f] = v;
            playThought(f, LENGTH);
            if (seconds.mostWarmth(f) < HOTTEST) {
                return v;
            }
        }
        return NONE;
    }

    // ---- what stops it

    public int stops(int f, int stopSecond, int what) {
        if (!now.has(f)) {
            return NO_SUCH;
        }
        boolean known = stopSecond >= 0 && stopSecond / 100 < STOPS && stopSecond % 100 < STOP_SECONDS;
        if (!known || !isWithin(what, 4)) {
            return NOT_TOLD;
        }
        playStopped(f, stopSecond / 100, stopSecond % 100);
        return redTold(f, what);
    }

    public int best(int f, int what) {
        if (!now.has(f)) {
            return NO_SUCH;
        }
        if (!isWithin(what, 1)) {
            return NOT_TOLD;
        }
        playNow(f, LENGTH);
        int fewest = seconds.redSeconds(f);
        int found = NONE;
        for (int which = 0; which < STOPS; which++) {
            for (int at = 0; at < STOP_SECONDS && fewest > 0; at++) {
                playStopped(f, which, at);
                int reds = seconds.redSeconds(f);
                if (reds < fewest) {
                    fewest = reds;
                    found = 100 * which + at;
                }
            }
        }
        return what == 0 ? found : fewest;
    }

    public int latest(int f, int which) {
        if (!now.has(f)) {
            return NO_SUCH;
        }
        if (!isWithin(which, STOPS - 1)) {
            return NOT_TOLD;
        }
        for (int at = STOP_SECONDS - 1; at >= 0; at--) {
            playStopped(f, which, at);
            if (!seconds.isRedBehind(LENGTH, f)) {
                return at;
            }
        }
        return NONE;
    }

    // ---- looks

    public int adds(int f, int who) {
        if (!now.has(f) || !now.has(who) || f == who) {
            return NO_SUCH_TWO;
        }
        playNow(f, LENGTH);
        return seconds.felt(f) - feltUnseenBy(f, who);
    }

    public int turn(int f, int what) {
        if (!now.has(f) || !isWithin(what, 1)) {
            return NO_SUCH_TWO;
        }
        playNow(f, LENGTH);
        int felt = seconds.felt(f);
        int found = NONE;
        int most = 0;
        for (int who = 0; who < now.faces; who++) {
            if (who != f) {
                int added = felt - feltUnseenBy(f, who);
                if (found == NONE || added > most) {
                    found = who;
                    most = added;
                }
            }
        }
        return what == 0 ? found : most;
    }

    public int stares(int who) {
        if (!now.has(who)) {
            return NO_SUCH_TWO;
        }
        playAllNow(LENGTH);
        int felt = seconds.feltByOthers(who);
        twist.clear();
        twist.blind(who, Twist.ANYBODY);
        seconds.play(now, LENGTH);
        return felt - seconds.feltByOthers(who);
    }

    // ---- seats

    public int where(int f, int what) {
        if (!now.has(f)) {
            return NO_SUCH;
        }
        if (!isWithin(what, 1)) {
            return NOT_TOLD;
        }
        int found = NONE;
        int fewest = 0;
        for (int s = 0; s < SEATS; s++) {
            thought.become(now);
            thought.move(f, s);
            playThought(f, LENGTH);
            int reds = seconds.redSeconds(f);
            if (found == NONE || reds < fewest) {
                found = s;
                fewest = reds;
            }
        }
        return what == 0 ? found : fewest;
    }

    public int change(int what) {
        if (!isWithin(what, 1)) {
            return BAD;
        }
        playAllNow(LENGTH);
        int fewest = seconds.redSecondsOfAll();
        int found = NONE;
        for (int one = 0; one < now.faces && one < MOST_FACES; one++) {
            for (int other = one + 1; other < now.faces && other < MOST_FACES; other++) {
                thought.become(now);
                thought.move(one, now.seat[other]);
                playAllThought(LENGTH);
                int reds = seconds.redSecondsOfAll();
                if (reds < fewest) {
                    fewest = reds;
                    found = 10 * one + other;
                }
            }
        }
        return what == 0 ? found : fewest;
    }

    public int shade(int s, int what) {
        if (!isSeat(s)) {
            return NO_SUCH;
        }
        if (!isWithin(what, 1)) {
            return NOT_TOLD;
        }
        int found = NONE;
        int fewest = 0;
        for (int v = 0; v <= MOST_LIGHT; v++) {
            thought.become(now);
            thought.light[s] = v;
            playAllThought(LENGTH);
            int reds = seconds.redSecondsOfAll();
            if (found == NONE || reds < fewest) {
                found = v;
                fewest = reds;
            }
        }
        return what == 0 ? found : fewest;
    }

    // ---- whom one sets off, who it is

    public int sets(int f, int much) {
        if (!now.has(f)) {
            return NO_SUCH;
        }
        if (!isWithin(much, HOTTEST)) {
            return NOT_TOLD;
        }
        playAllNow(LENGTH);
        int red = seconds.everRedBits();
        twist.clear();
        twist.addCause(f, 0, much);
        seconds.play(now, LENGTH);
        return seconds.everRedBits() & ~red & ~(1 << f);
    }

    public int needs(int f) {
        if (!now.has(f)) {
            return NO_SUCH;
        }
        for (int much = 0; much <= HOTTEST; much += 10) {
            playCaused(f, f, 0, much, LENGTH);
            if (seconds.redSeconds(f) > 0) {
                return much;
            }
        }
        return NONE;
    }

    public int asked(int much, int n) {
        if (!isWithin(much, HOTTEST) || !isWithin(n, LENGTH)) {
            return BAD;
        }
        int bits = 0;
        for (int f = 0; f < now.faces; f++) {
            if (isRedAsked(f, much, n)) {
                bits |= 1 << f;
            }
        }
        return bits;
    }

    public long guilty(int f, int muchMore, int n, int part) {
        boolean known = muchMore >= 0 && muchMore / 1000 <= HOTTEST && muchMore % 1000 <= HOTTEST;
        if (!known || !now.has(f) || !isWithin(n, LENGTH) || !isWithin(part, 1)) {
            return NO;
        }
        int much = muchMore / 1000;
        int ifGuilty = isRedAsked(f, Math.min(HOTTEST, much + muchMore % 1000), n) ? 1 : 0;
        int ifNot = isRedAsked(f, much, n) ? now.faces - 1 : 0;
        return lowestTerms(ifGuilty, ifGuilty + ifNot, part);
    }

    // ---- told films

    public int judge(int s, int f) {
        int refusal = filmRefusal(s);
        if (refusal < 0) {
            return refusal;
        }
        if (!now.has(f)) {
            return NO_SUCH;
        }
        playNow(f, filmLength(s));
        return firstOther(s, f);
    }

    public int whose(int s) {
        int refusal = filmRefusal(s);
        if (refusal < 0) {
            return refusal;
        }
        playAllNow(filmLength(s));
        int bits = 0;
        for (int f = 0; f < now.faces; f++) {
            if (firstOther(s, f) == NONE) {
                bits |= 1 << f;
            }
        }
        return bits;
    }

    public long began(int s, int f, int much) {
        if (filmRefusal(s) < 0 || !now.has(f) || !isWithin(much, HOTTEST)) {
            return NO;
        }
        long bits = 0L;
        for (int at = 0; at < LENGTH; at++) {
            playCaused(f, f, at, much, filmLength(s));
            if (firstOther(s, f) == NONE) {
                bits |= 1L << at;
            }
        }
        return bits;
    }

    public int through(int s, int f, int muchAt) {
        int refusal = filmRefusal(s);
        if (refusal < 0) {
            return refusal;
        }
        if (!now.has(f)) {
            return NO_SUCH;
        }
        if (muchAt < 0 || muchAt / 100 > HOTTEST || !isSecond(muchAt % 100)) {
            return NOT_TOLD;
        }
        int bits = 0;
        for (int other = 0; other < now.faces; other++) {
            if (other != f) {
                playCaused(f, other, muchAt % 100, muchAt / 100, filmLength(s));
                bits |= firstOther(s, f) == NONE ? 1 << other : 0;
            }
        }
        return bits;
    }

    public int kinds(int s, int f, int sort) {
        int refusal = filmRefusal(s);
        if (refusal < 0) {
            return refusal;
        }
        if (!now.has(f)) {
            return NO_SUCH;
        }
        if (!isWithin(sort, 1)) {
            return NOT_TOLD;
        }
        int last = sort == 0 ? Kind.LAST : MOST_MORE;
        int bits = 0;
        for (int v = 0; v <= last; v++) {
            thought.become(now);
            if (sort == 0) {
                thought.kind[f] = v;
            } else {
                thought.more[f] = v;
            }
            playThought(f, filmLength(s));
            bits |= firstOther(s, f) == NONE ? 1 << v : 0;
        }
        return bits;
    }

    public int laws(int s, int f) {
        int refusal = filmRefusal(s);
        if (refusal < 0) {
            return refusal;
        }
        if (!now.has(f)) {
            return NO_SUCH;
        }
        int bits = 0;
        for (int t = 0; t < texts.held; t++) {
            thought.become(now);
            thought.law = t;
            playThought(f, filmLength(s));
            bits |= firstOther(s, f) == NONE ? 1 << t : 0;
        }
        return bits;
    }

    public int film(int s, int f, int n) {
        if (!sheets.has(s)) {
            return BAD;
        }
        if (!now.has(f)) {
            return NO_SUCH;
        }
        if (!isWithin(n, FILM_PLACES)) {
            return NOT_TOLD;
        }
        playNow(f, FILM_STEP * n);
        sheets.become(s, Sheets.INTS, n);
        for (int i = 0; i < n; i++) {
            sheets.put(s, i, seconds.warmthBehind(FILM_STEP * (i + 1), f));
        }
        return n;
    }

    // ---- causes by lot

    public int drawn(int seed, int much) {
        if (!isWithin(seed, LAST_SEED) || !isWithin(much, HOTTEST)) {
            return BAD;
        }
        twist.clear();
        twist.drawLots(seed, much);
        seconds.play(now, LENGTH);
        return seconds.everRedBits();
    }

    public long odds(int seed, int seeds, int much, int facePart) {
        boolean known = isWithin(seed, LAST_SEED) && seeds >= 1 && seeds <= MOST_SEEDS
            && isWithin(much, HOTTEST) && facePart >= 0 && facePart % 10 <= 1;
        if (!known || !now.has(facePart / 10)) {
            return NO;
        }
        int times = 0;
        for (int i = 0; i < seeds; i++) {
            twist.clear();
            twist.drawLots(seed + i, much);
            seconds.playOne(now, facePart / 10, LENGTH);
            times += seconds.redSeconds(facePart / 10) > 0 ? 1 : 0;
        }
        return lowestTerms(times, seeds, facePart % 10);
    }

    public int image() {
        kept.become(now);
        hasImage = true;
        return kept.faces;
    }

    public int back() {
        if (!hasImage) {
            return STATE;
        }
        now.become(kept);
        return now.faces;
    }

    // ---- the host

    public int sheet(int s, int sort, int n) {
        if (!sheets.has(s) || sort < Sheets.MISSING || sort > Sheets.INTS) {
            return BAD;
        }
        if (sort == Sheets.MISSING) {
            sheets.become(s, sort, 0);
            return 1;
        }
        if (n > SHEET_ROOM) {
            return BAD;
        }
        if (n < 0) {
            return BELOW_ZERO;
        }
        sheets.become(s, sort, n);
        return 1;
    }

    public int cell(int s, int i, int v) {
        if (!sheets.has(s)) {
            return BAD;
        }
        if (sheets.isMissing(s)) {
            return NOTHING;
        }
        if (!sheets.holds(s, i, 1)) {
            return OUTSIDE;
        }
        sheets.put(s, i, v);
        return 1;
    }

    public int copy(int s, int i, int other, int j, int n) {
        if (!sheets.has(s) || !sheets.has(other)) {
            return BAD;
        }
        if (sheets.isMissing(s) || sheets.isMissing(other)) {
            return NOTHING;
        }
        if (sheets.sort[s] != sheets.sort[other]) {
            return UNLIKE;
        }
        if (!sheets.holds(s, i, n) || !sheets.holds(other, j, n)) {
            return OUTSIDE;
        }
        sheets.carry(s, i, other, j, n);
        return n;
    }

    public int facesBy(int s, int sort, int at, int n) {
        boolean known = sheets.has(s) && sort >= 0 && sort <= Sheets.INTS && isWithin(n, MOST_FACES);
        if (!known) {
            return BAD;
        }
        if (sheets.isMissing(s)) {
            return NOTHING;
        }
        if (sheets.sort[s] != sort) {
            return UNLIKE;
        }
        int came = 0;
        for (int k = 0; k < n; k++) {
            // a place far outside would wrap round: it is looked at ahead of each step
            if (!sheets.holds(s, at, 3 * (k + 1))) {
                return OUTSIDE;
            }
            int i = at + 3 * k;
            if (face(sheets.get(s, i), sheets.get(s, i + 1), sheets.get(s, i + 2)) >= 0) {
                came++;
            }
        }
        return came;
    }

    public int taken(int i, int kind) {
        if (!isWithin(kind, Kind.SEAT)) {
            return BAD;
        }
        if (i < 0 || i >= SEATS + MOST_FACES) {
            return OUTSIDE;
        }
        if (i < SEATS) {
            if (now.light[i] == 0) {
                return NOTHING;
            }
            return kind == Kind.SEAT ? now.light[i] : UNLIKE;
        }
        int f = i - SEATS;
        if (!now.has(f)) {
            return NOTHING;
        }
        return Kind.isA(now.kind[f], kind) ? f : UNLIKE;
    }

    // ---- what several calls use

    private static boolean isWithin(int v, int most) {
        return v >= 0 && v <= most;
    }

    private static boolean isByte(int v) {
        return isWithin(v, 255);
    }

    private static boolean isSeat(int s) {
        return isWithin(s, SEATS - 1);
    }

    private static boolean isSecond(int v) {
        return isWithin(v, LENGTH - 1);
    }

    private void playAllNow(int length) {
        twist.clear();
        seconds.play(now, length);
    }

    private void playAllThought(int length) {
        twist.clear();
        seconds.play(thought, length);
    }

    private void playNow(int f, int length) {
        twist.clear();
        seconds.playOne(now, f, length);
    }

    private void playThought(int f, int length) {
        twist.clear();
        seconds.playOne(thought, f, length);
    }

    private void playStopped(int f, int which, int second) {
        twist.clear();
        twist.stop(f, which, second);
        seconds.playOne(now, f, LENGTH);
    }

    private void playCaused(int f, int who, int second, int much, int length) {
        twist.clear();
        twist.addCause(who, second, much);
        seconds.playOne(now, f, length);
    }

    private int redTold(int f, int what) {
        switch (what) {
            case 0: return seconds.mostWarmth(f);
            case 1: return seconds.redSeconds(f);
            case 2: return seconds.firstRed(f);
            case 3: return seconds.lastRed(f);
            default: return seconds.felt(f);
        }
    }

    private int feltUnseenBy(int f, int who) {
        twist.clear();
        twist.blind(who, f);
        seconds.playOne(now, f, LENGTH);
        return seconds.felt(f);
    }

    private boolean isRedAsked(int f, int much, int n) {
        playCaused(f, f, 0, much, n);
        return seconds.isRedBehind(n, f);
    }

    private static long lowestTerms(int above, int below, int part) {
        if (below <= 0) {
            return NO;
        }
        int common = 1;
        for (int d = 2; d <= below; d++) {
            if (above % d == 0 && below % d == 0) {
                common = d;
            }
        }
        return part == 0 ? above / common : below / common;
    }

    private int filmRefusal(int s) {
        if (!sheets.has(s)) {
            return BAD;
        }
        if (sheets.isMissing(s)) {
            return NOTHING;
        }
        return sheets.size[s] > FILM_PLACES ? BAD : 0;
    }

    private int filmLength(int s) {
        return sheets.has(s) ? FILM_STEP * sheets.size[s] : 0;
    }

    private int firstOther(int s, int f) {
        int places = sheets.has(s) ? sheets.size[s] : 0;
        for (int i = 0; i < places; i++) {
            if (sheets.get(s, i) != seconds.warmthBehind(FILM_STEP * (i + 1), f)) {
                return i;
            }
        }
        return NONE;
    }

    /** What a KIND says; a SEAT is one more that taken() knows. */
    private static final class Kind {
        static final int SHY = 1, DARK = 2, RUNAWAY = 3, BEARD = 4, WINED = 5, LAST = 5, SEAT = 6;
        private static final int[] ABOVE = {-1, 0, 0, 1, 2, 0};

        static boolean isA(int kind, int other) {
            int k = kind;
            for (int n = 0; n < ABOVE.length && k >= 0 && k < ABOVE.length; n++) {
                if (k == other) {
                    return true;
                }
                k = ABOVE[k];
            }
            return false;
        }

        static int warms(int kind, int more, int said, boolean red) {
            if (kind == WINED) {
                return said / 2 + 1;
            }
            int much = red && isA(kind, SHY) ? 2 * said : said;
            return kind == RUNAWAY ? much + more : much;
        }

        static int cools(int kind, int more, int said, int warmth) {
            if (kind == RUNAWAY && warmth > 200) {
                return said / 2;
            }
            return kind == WINED && warmth < 10 * more ? 0 : said;
        }

        static int redFrom(int kind, int more, int light) {
            int from = 60 - 4 * (kind == BEARD ? light / 2 : light);
            if (isA(kind, DARK)) {
                from += 10 * more;
            }
            return Math.max(1, kind == BEARD ? from + 20 : from);
        }
    }

    /** All that AN IMAGE keeps: one truly, one in thought, one kept. */
    private static final class Scene {
        final int[] kind = new int[MOST_FACES];
        final int[] more = new int[MOST_FACES];
        final int[] warmth = new int[MOST_FACES];
        final int[] seat = new int[MOST_FACES];
        final int[] light = new int[SEATS];
        final int[] causeSecond = new int[MOST_CAUSES];
        final int[] causeFace = new int[MOST_CAUSES];
        final int[] causeMuch = new int[MOST_CAUSES];
        int faces = 0;
        int causes = 0;
        int law = 0;

        void become(Scene other) {
            System.arraycopy(other.kind, 0, kind, 0, MOST_FACES);
            System.arraycopy(other.more, 0, more, 0, MOST_FACES);
            System.arraycopy(other.warmth, 0, warmth, 0, MOST_FACES);
            System.arraycopy(other.seat, 0, seat, 0, MOST_FACES);
            System.arraycopy(other.light, 0, light, 0, SEATS);
            System.arraycopy(other.causeSecond, 0, causeSecond, 0, MOST_CAUSES);
            System.arraycopy(other.causeFace, 0, causeFace, 0, MOST_CAUSES);
            System.arraycopy(other.causeMuch, 0, causeMuch, 0, MOST_CAUSES);
            faces = other.faces;
            causes = other.causes;
            law = other.law;
        }

        boolean has(int f) {
            return f >= 0 && f < faces && f < MOST_FACES;
        }

        int come(int kindOfIt, int moreOfIt, int warmthOfIt, int s) {
            if (faces < 0 || faces >= MOST_FACES) {
                return FULL;
            }
            kind[faces] = kindOfIt;
            more[faces] = moreOfIt;
            warmth[faces] = warmthOfIt;
            seat[faces] = s;
            faces++;
            return faces - 1;
        }

        int sitterOf(int s) {
            for (int f = 0; f < faces && f < MOST_FACES; f++) {
                if (seat[f] == s) {
                    return f;
                }
            }
            return NONE;
        }

        void move(int f, int s) {
            if (!has(f) || !isSeat(s)) {
                return;
            }
            int other = sitterOf(s);
            if (has(other)) {
                seat[other] = seat[f];
            }
            seat[f] = s;
        }

        int lightOf(int f) {
            return has(f) && isSeat(seat[f]) ? light[seat[f]] : 0;
        }

        int redFrom(int f) {
            return has(f) ? Kind.redFrom(kind[f], more[f], lightOf(f)) : 0;
        }

        int addCause(int at, int f, int much) {
            if (causes < 0 || causes >= MOST_CAUSES) {
                return FULL;
            }
            causeSecond[causes] = at;
            causeFace[causes] = f;
            causeMuch[causes] = much;
            causes++;
            return causes - 1;
        }

        int causedTo(int f, int at) {
            int much = 0;
            for (int k = 0; k < causes && k < MOST_CAUSES; k++) {
                if (causeSecond[k] == at && causeFace[k] == f) {
                    much += causeMuch[k];
                }
            }
            return much;
        }
    }

    /** What is otherwise in thought, but for the SCENE: a STOP, looks that are none, ONE CAUSE MORE, LOTS. */
    private static final class Twist {
        static final int ANYBODY = MOST_FACES;
        private static final int TURNING_AWAY = 0, PENCIL = 1, SAYING_IT = 2, WISH = 3;
        private static final long LOT_FACTOR = 48271L, LOT_MODULUS = 2147483647L;
        private static final int LOT_SECONDS = 80;

        private int stopFace = NONE;
        private int stopWhich = NONE;
        private int stopAt = 0;
        private int blindOne = NONE;
        private int blindTo = NONE;
        private int causeFace = NONE;
        private int causeAt = 0;
        private int causeMuch = 0;
        private final int[] lotAt = new int[MOST_FACES];
        private int lotMuch = 0;

        void clear() {
            stopFace = NONE;
            blindOne = NONE;
            causeFace = NONE;
            lotMuch = 0;
        }

        void stop(int f, int which, int second) {
            stopFace = f;
            stopWhich = which;
            stopAt = second;
        }

        void blind(int who, int to) {
            blindOne = who;
            blindTo = to;
        }

        void addCause(int f, int second, int much) {
            causeFace = f;
            causeAt = second;
            causeMuch = much;
        }

        void drawLots(int seed, int much) {
            long lot = seed + 1L;
            for (int f = 0; f < MOST_FACES; f++) {
                lot = lot * LOT_FACTOR % LOT_MODULUS;
                lotAt[f] = (int) (lot % LOT_SECONDS);
            }
            lotMuch = much;
        }

        private boolean isDoing(int f, int which, int second, int length) {
            return f == stopFace && which == stopWhich && second >= stopAt && second < stopAt + length;
        }

        boolean hides(int f, int second) {
            return isDoing(f, TURNING_AWAY, second, 10);
        }

        boolean isBlind(int who, int to) {
            return who == blindOne && (blindTo == ANYBODY || blindTo == to);
        }

        int warmsSo(int f, int second, int much, int more) {
            if (isDoing(f, SAYING_IT, second, LENGTH)) {
                return much / 2;
            }
            return isDoing(f, WISH, second, 10) ? Math.max(0, much - 2 * more) : much;
        }

        int coolsSo(int f, int second, int much) {
            return isDoing(f, PENCIL, second, 5) ? much + 15 : much;
        }

        int causedTo(int f, int second) {
            int much = f == causeFace && second == causeAt ? causeMuch : 0;
            return isDoing(f, SAYING_IT, second, 1) ? much + 30 : much;
        }

        int drawnTo(int f, int second) {
            return f >= 0 && f < MOST_FACES && lotAt[f] == second ? lotMuch : 0;
        }
    }

    /** What the NAMES of a TEXT stand for, of a FACE in a SECOND. */
    private static final class Names {
        static final int COUNT = 6;
        private static final int WARMTH = 0, GLANCES = 1, LIGHT = 2, SECOND = 3, SEEN = 4, MORE = 5;
        final int[] values = new int[COUNT];

        void tell(int warmth, int light, int second, int seen) {
            values[WARMTH] = warmth;
            values[LIGHT] = light;
            values[SECOND] = second;
            values[SEEN] = seen;
        }

        void tellLooks(int glances, int more) {
            values[GLANCES] = glances;
            values[MORE] = more;
        }
    }

    /** Forty SECONDS of all FACES: how warm each is behind each, how many looked at it. */
    private static final class Seconds {
        final Names names = new Names();
        private final Texts texts;
        private final Twist twist;
        private final int[] warmth = new int[(LENGTH + 1) * MOST_FACES];
        private final int[] looked = new int[(LENGTH + 1) * MOST_FACES];
        private final int[] redFrom = new int[MOST_FACES];
        private int faces = 0;

        Seconds(Texts texts, Twist twist) {
            this.texts = texts;
            this.twist = twist;
        }

        void play(Scene scene, int length) {
            faces = Math.min(scene.faces, MOST_FACES);
            for (int f = 0; f < faces; f++) {
                playOne(scene, f, length);
            }
        }

        /**
         * One alone can be played, and all one after another: a look asks of the one looked at, and of
         * the looker's MORE, so that no WARMTH hangs on another's.
         */
        void playOne(Scene scene, int f, int length) {
            if (!scene.has(f)) {
                return;
            }
            warmth[f] = scene.warmth[f];
            looked[f] = 0;
            redFrom[f] = scene.redFrom(f);
            for (int second = 0; second < length && second < LENGTH; second++) {
                playSecond(scene, f, second);
            }
        }

        private void playSecond(Scene scene, int f, int second) {
            int before = second * MOST_FACES + f;
            int behind = before + MOST_FACES;
            if (!scene.has(f) || before < 0 || behind >= warmth.length) {
                return;
            }
            int w = warmth[before];
            boolean red = w >= redFrom[f];
            names.tell(w, scene.lightOf(f), second, red ? 1 : 0);
            int looks = twist.hides(f, second) ? 0 : lookersAt(scene, f, looked[before]);
            names.tellLooks(looks, scene.more[f]);
            int warms = Kind.warms(scene.kind[f], scene.more[f],
                texts.bounded(scene.law, Texts.WARMS, names.values), red);
            int cools = Kind.cools(scene.kind[f], scene.more[f],
                texts.bounded(scene.law, Texts.COOLS, names.values), w);
            int warmer = twist.warmsSo(f, second, warms, scene.more[f])
                + scene.causedTo(f, second) + twist.causedTo(f, second);
            int then = Math.max(0, Math.min(HOTTEST, w + warmer - twist.coolsSo(f, second, cools)));
            warmth[behind] = Math.min(HOTTEST, then + twist.drawnTo(f, second));
            looked[behind] = looks;
        }

        private int lookersAt(Scene scene, int f, int glances) {
            int count = 0;
            for (int who = 0; who < scene.faces && who < MOST_FACES; who++) {
                if (who != f && !twist.isBlind(who, f)) {
                    names.tellLooks(glances, scene.more[who]);
                    if (texts.value(scene.law, Texts.LOOKS, names.values) != 0) {
                        count++;
                    }
                }
            }
            return count;
        }

        private static boolean isPlace(int n, int f) {
            return n >= 0 && n <= LENGTH && f >= 0 && f < MOST_FACES;
        }

        int warmthBehind(int n, int f) {
            return isPlace(n, f) ? warmth[n * MOST_FACES + f] : 0;
        }

        int lookedBehind(int n, int f) {
            return isPlace(n, f) ? looked[n * MOST_FACES + f] : 0;
        }

        boolean isRedBehind(int n, int f) {
            return isPlace(n, f) && warmth[n * MOST_FACES + f] >= redFrom[f];
        }

        int mostWarmth(int f) {
            int most = 0;
            for (int n = 0; n <= LENGTH; n++) {
                most = Math.max(most, warmthBehind(n, f));
            }
            return most;
        }

        int redSeconds(int f) {
            int count = 0;
            for (int n = 1; n <= LENGTH; n++) {
                count += isRedBehind(n, f) ? 1 : 0;
            }
            return count;
        }

        int redSecondsOfAll() {
            int count = 0;
            for (int f = 0; f < faces; f++) {
                count += redSeconds(f);
            }
            return count;
        }

        int firstRed(int f) {
            for (int n = 1; n <= LENGTH; n++) {
                if (isRedBehind(n, f)) {
                    return n - 1;
                }
            }
            return NONE;
        }

        int lastRed(int f) {
            for (int n = LENGTH; n >= 1; n--) {
                if (isRedBehind(n, f)) {
                    return n - 1;
                }
            }
            return NONE;
        }

        int felt(int f) {
            int sum = 0;
            for (int n = 1; n <= LENGTH; n++) {
                sum += warmthBehind(n, f);
            }
            return sum;
        }

        int feltByOthers(int who) {
            int sum = 0;
            for (int f = 0; f < faces; f++) {
                sum += f == who ? 0 : felt(f);
            }
            return sum;
        }

        int redBits(int n) {
            int bits = 0;
            for (int f = 0; f < faces; f++) {
                bits |= isRedBehind(n, f) ? 1 << f : 0;
            }
            return bits;
        }

        int everRedBits() {
            int bits = 0;
            for (int n = 1; n <= LENGTH; n++) {
                bits |= redBits(n);
            }
            return bits;
        }

        int warmthOfAll(int n) {
            int sum = 0;
            for (int f = 0; f < faces; f++) {
                sum += warmthBehind(n, f);
            }
            return sum;
        }

        int hottestBits(int n) {
            int bits = 0;
            for (int f = 0; f < faces; f++) {
                bits |= warmthBehind(n, f) >= HOTTEST ? 1 << f : 0;
            }
            return bits;
        }
    }

    /**
     * What the bytes of a TEXT mean. The NAMES, the KEYS and the signs that join are what is written
     * of a TEXT, too: below 0, for a NUMBER is written as it is.
     */
    private static final class Word {
        static final int LAST_NAME = -Names.COUNT;
        static final int OR = -7, AND = -8, NOT = -9, WARMS = -10, COOLS = -11, LOOKS = -12, LAST_WORD = -12;
        static final int LESS = -13, SAME = -14, PLUS = -15, MINUS = -16, TIMES = -17, NEGATE = -18;
        static final int NUMBER = -19, OPEN = -20, CLOSE = -21, SEMICOLON = -22, END = -23, WRONG = -24;

        static String spelled(int word) {
            switch (word) {
                case -1: return "warmth";
                case -2: return "glances";
                case -3: return "light";
                case -4: return "second";
                case -5: return "seen";
                case -6: return "more";
                case OR: return "or";
                case AND: return "and";
                case NOT: return "not";
                case WARMS: return "warms";
                case COOLS: return "cools";
                case LOOKS: return "looks";
                default: return "";
            }
        }

        static int signOf(int b) {
            switch (b) {
                case '(': return OPEN;
                case ')': return CLOSE;
                case ';': return SEMICOLON;
                case '+': return PLUS;
                case '-': return MINUS;
                case '*': return TIMES;
                case '<': return LESS;
                case '=': return SAME;
                default: return WRONG;
            }
        }

        static int keyOf(int part) {
            return part == Texts.WARMS ? WARMS : part == Texts.COOLS ? COOLS : LOOKS;
        }

        static boolean isName(int token) {
            return token < 0 && token >= LAST_NAME;
        }

        static boolean isLetter(int b) {
            return b >= 'a' && b <= 'z';
        }

        static boolean isDigit(int b) {
            return b >= '0' && b <= '9';
        }

        static boolean isBlank(int b) {
            return b == ' ' || b == '\n';
        }
    }

    /** The TEXTS, each written so that what is joined stands ahead of what joins it. */
    private static final class Texts {
        static final int WARMS = 0, COOLS = 1, LOOKS = 2, PARTS = 3;
        private static final int STACK_ROOM = 64, MOST_SAID = 99;

        private final int[] codes = new int[MOST_TEXTS * TAPE_ROOM];
        private final int[] ends = new int[MOST_TEXTS * PARTS];
        private final int[] stack = new int[STACK_ROOM];
        private int written = 0;
        int held = 0;

        void beginNext() {
            written = 0;
        }

        void write(int code) {
            int i = held * TAPE_ROOM + written;
            if (held >= 0 && held < MOST_TEXTS && written >= 0 && written < TAPE_ROOM) {
                codes[i] = code;
                written++;
            }
        }

        void endPart(int part) {
            if (held >= 0 && held < MOST_TEXTS && part >= 0 && part < PARTS) {
                ends[held * PARTS + part] = held * TAPE_ROOM + written;
            }
        }

        void keepNext() {
            if (held < MOST_TEXTS) {
                held++;
            }
        }

        int bounded(int text, int part, int[] names) {
            return Math.max(0, Math.min(MOST_SAID, value(text, part, names)));
        }

        int value(int text, int part, int[] names) {
            if (text < 0 || text >= held || part < 0 || part >= PARTS || names.length < Names.COUNT) {
                return 0;
            }
            int from = part == 0 ? text * TAPE_ROOM : ends[text * PARTS + part - 1];
            int to = Math.min(ends[text * PARTS + part], codes.length);
            int top = -1;
            for (int i = from; i < to && top + 1 < STACK_ROOM; i++) {
                int code = codes[i];
                if (code >= Word.LAST_NAME) {
                    top++;
                    stack[top] = code >= 0 ? code : names[-1 - code];
                } else if (top >= 0 && (code == Word.NOT || code == Word.NEGATE)) {
                    stack[top] = code == Word.NEGATE ? -stack[top] : stack[top] == 0 ? 1 : 0;
                } else if (top >= 1) {
                    top--;
                    stack[top] = joined(code, stack[top], stack[top + 1]);
                }
            }
            return top >= 0 ? stack[0] : 0;
        }

        private static int joined(int code, int a, int b) {
            switch (code) {
                case Word.OR: return a != 0 || b != 0 ? 1 : 0;
                case Word.AND: return a != 0 && b != 0 ? 1 : 0;
                case Word.LESS: return a < b ? 1 : 0;
                case Word.SAME: return a == b ? 1 : 0;
                case Word.PLUS: return a + b;
                case Word.MINUS: return a - b;
                case Word.TIMES: return a * b;
                default: return 0;
            }
        }
    }

    /** THE TAPE, and the reading of a TEXT from it. */
    private static final class Reader {
        private static final int MOST_OPEN = 5, MOST_DIGITS = 4;

        private final Texts texts;
        private final int[] bytes = new int[TAPE_ROOM];
        private int size = 0;
        private int token = Word.WRONG;
        private int number = 0;
        private int begin = 0;
        private int behind = 0;
        private int fault = NONE;

        Reader(Texts texts) {
            this.texts = texts;
        }

        int taped() {
            return size;
        }

        void tape(int b) {
            if (size >= 0 && size < TAPE_ROOM) {
                bytes[size] = b;
                size++;
            }
        }

        /** THE TAPE is a TEXT, and empty then: the place of the FAULT, NONE without one. */
        int readTape() {
            behind = 0;
            fault = NONE;
            texts.beginNext();
            step();
            for (int part = 0; part < Texts.PARTS; part++) {
                expect(Word.keyOf(part));
                readOr(0);
                expect(Word.SEMICOLON);
                texts.endPart(part);
            }
            if (token != Word.END) {
                fail();
            }
            if (fault == NONE) {
                texts.keepNext();
            }
            size = 0;
            return fault;
        }

        private void readOr(int open) {
            readAnd(open);
            for (int n = 0; n < TAPE_ROOM && token == Word.OR; n++) {
                step();
                readAnd(open);
                texts.write(Word.OR);
            }
        }

        private void readAnd(int open) {
            readNot(open);
            for (int n = 0; n < TAPE_ROOM && token == Word.AND; n++) {
                step();
                readNot(open);
                texts.write(Word.AND);
            }
        }

        private void readNot(int open) {
            if (token != Word.NOT) {
                readCompared(open);
            } else if (open >= MOST_OPEN) {
                fail();
            } else {
                step();
                readNot(open + 1);
                texts.write(Word.NOT);
            }
        }

        private void readCompared(int open) {
            readSum(open);
            if (token == Word.LESS || token == Word.SAME) {
                int joint = token;
                step();
                readSum(open);
                texts.write(joint);
            }
        }

        private void readSum(int open) {
            readTerm(open);
            for (int n = 0; n < TAPE_ROOM && (token == Word.PLUS || token == Word.MINUS); n++) {
                int joint = token;
                step();
                readTerm(open);
                texts.write(joint);
            }
        }

        private void readTerm(int open) {
            readOne(open);
            for (int n = 0; n < TAPE_ROOM && token == Word.TIMES; n++) {
                step();
                readOne(open);
                texts.write(Word.TIMES);
            }
        }

        private void readOne(int open) {
            if (token == Word.NUMBER) {
                texts.write(number);
                step();
            } else if (Word.isName(token)) {
                texts.write(token);
                step();
            } else if (token == Word.MINUS && open < MOST_OPEN) {
                step();
                readOne(open + 1);
                texts.write(Word.NEGATE);
            } else if (token == Word.OPEN && open < MOST_OPEN) {
                step();
                readOr(open + 1);
                expect(Word.CLOSE);
            } else {
                fail();
            }
        }

        private void expect(int wanted) {
            if (token == wanted) {
                step();
            } else {
                fail();
            }
        }

        /** The first FAULT stays; no reader takes a WRONG token, so that all of them end. */
        private void fail() {
            if (fault == NONE) {
                fault = begin;
            }
            token = Word.WRONG;
        }

        private void step() {
            begin = behind;
            while (begin < size && Word.isBlank(byteAt(begin))) {
                begin++;
            }
            behind = begin;
            if (begin >= size) {
                token = Word.END;
            } else if (Word.isLetter(byteAt(begin))) {
                stepWord();
            } else if (Word.isDigit(byteAt(begin))) {
                stepNumber();
            } else {
                token = Word.signOf(byteAt(begin));
                behind = begin + 1;
            }
        }

        private int byteAt(int place) {
            return place >= 0 && place < size && place < TAPE_ROOM ? bytes[place] : NONE;
        }

        private void stepWord() {
            while (behind < size && Word.isLetter(byteAt(behind))) {
                behind++;
            }
            token = Word.WRONG;
            for (int word = -1; word >= Word.LAST_WORD; word--) {
                if (isSpelled(Word.spelled(word))) {
                    token = word;
                }
            }
        }

        private boolean isSpelled(String word) {
            if (behind - begin != word.length()) {
                return false;
            }
            for (int i = 0; i < word.length(); i++) {
                if (byteAt(begin + i) != word.charAt(i)) {
                    return false;
                }
            }
            return true;
        }

        private void stepNumber() {
            number = 0;
            while (behind < size && Word.isDigit(byteAt(behind))) {
                number = 10 * number + byteAt(behind) - '0';
                behind++;
            }
            token = behind - begin > MOST_DIGITS ? Word.WRONG : Word.NUMBER;
        }
    }

    /** The host's rows of numbers, all in one row: of each its sort, and how many it has. */
    private static final class Sheets {
        static final int MISSING = -1, BYTES = 0, SHORTS = 1, INTS = 2;
        final int[] sort = {MISSING, MISSING, MISSING, MISSING};
        final int[] size = new int[SHEETS];
        private final int[] cells = new int[SHEETS * SHEET_ROOM];

        boolean has(int s) {
            return s >= 0 && s < SHEETS;
        }

        boolean isMissing(int s) {
            return !has(s) || sort[s] == MISSING;
        }

        boolean holds(int s, int i, int n) {
            return has(s) && i >= 0 && n >= 0 && (long) i + n <= size[s];
        }

        void become(int s, int newSort, int n) {
            if (!has(s) || n < 0 || n > SHEET_ROOM) {
                return;
            }
            sort[s] = newSort;
            size[s] = n;
            for (int i = 0; i < n; i++) {
                cells[s * SHEET_ROOM + i] = 0;
            }
        }

        int get(int s, int i) {
            return holds(s, i, 1) ? cells[s * SHEET_ROOM + i] : 0;
        }

        void put(int s, int i, int v) {
            if (holds(s, i, 1)) {
                cells[s * SHEET_ROOM + i] = sort[s] == BYTES ? (byte) v : sort[s] == SHORTS ? (short) v : v;
            }
        }

        void carry(int s, int i, int other, int j, int n) {
            if (holds(s, i, n) && holds(other, j, n)) {
                System.arraycopy(cells, s * SHEET_ROOM + i, cells, other * SHEET_ROOM + j, n);
            }
        }
    }
}
