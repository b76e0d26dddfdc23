import java.util.Random;

/** Runs of calls by lot (always the same ones), answered by the class and by Model alike. */
public final class ModelTest {
    private static final int RUNS = 120;
    private static final int CALLS = 300;
    private static final String[] LAWS = {
        "warms glances * 7 - second; cools 2 + light; looks seen or warmth < 40 + more * 9;",
        "warms second * more - 20; cools warmth * 3 - 500; looks glances < 2 and not second = 7;",
        "warms glances * glances + light; cools seen * 4 + 1; looks warmth < more * 40;",
        "warms (second < 12) * 14 ; cools (11 < second) * 9; looks 0;",
        "warms 9 * (warmth < 90) + glances; cools 9999 * (380 < warmth) + more; looks more - 3;",
        "warms 5 + glances * 3 ; cools 6 - seen * 3 ; looks seen or second < more ;",
        "warms 30 - glances * 9; cools glances * 5 + 7; looks seen and more < 6 or 20 < second;",
        "warms - (0 - 6) * not_; cools 1; looks 1;",
        "warms 1 ; cools 1 ; looks ((((((1)))))) ;",
    };
    private static final String[] PIECES = {"warmth", "glances", "light", "second", "seen", "more", "1", "40", "12345",
        "(", ")", "+", "-", "*", "<", "=", "or", "and", "not", ";", "warms", "cools", "looks", "x", "@", " ", "\n"};

    private final Random lot;
    private final GoneRed x = new GoneRed();
    private final Model m = new Model();
    private final int run;

    private ModelTest(int run) {
        this.run = run;
        lot = new Random(run);
    }

    public static void main(String[] args) {
        for (int run = 0; run < RUNS && Due.wrong() == 0; run++) {
            ModelTest test = new ModelTest(run);
            test.begin();
            for (int call = 0; call < CALLS && Due.wrong() == 0; call++) {
                test.call(call);
            }
        }
        Due.end();
    }

    private void due(String call, long want, long got) {
        Due.part("run " + run);
        Due.is(call, want, got);
    }


    /** Most often within, at times just outside, seldom far outside. */
    private int from(int low, int high) {
        int which = lot.nextInt(60);
        if (which == 0) {
            return low - 1;
        }
        if (which == 1) {
            return high + 1;
        }
        if (which == 2) {
            return lot.nextInt();
        }
        if (which == 3) {
            return lot.nextBoolean() ? Integer.MIN_VALUE : Integer.MAX_VALUE;
        }
        return low + lot.nextInt(high - low + 1);
    }

    private int aFace() {
        return from(0, Math.max(0, m.w.n - 1));
    }

    private int warmth() {
        return lot.nextInt(3) == 0 ? from(0, 400) : from(0, 90);
    }

    private int tens(int high, int last) {
        return lot.nextInt(20) == 0 ? from(0, high * 10 + 9) : 10 * lot.nextInt(high + 1) + lot.nextInt(last + 1);
    }

    private void tape(String text) {
        for (int i = 0; i < text.length(); i += 5) {
            int[] b = new int[5];
            int n = Math.min(5, text.length() - i);
            for (int k = 0; k < n; k++) {
                b[k] = text.charAt(i + k);
            }
            due("feed", m.feed(n, b), x.feed(n, b[0], b[1], b[2], b[3], b[4]));
        }
    }

    private String e(int depth) {
        int which = depth <= 0 ? lot.nextInt(7) : lot.nextInt(14);
        switch (which) {
            case 0: return "warmth";
            case 1: return "glances";
            case 2: return lot.nextBoolean() ? "light" : "second";
            case 3: return lot.nextBoolean() ? "seen" : "more";
            case 4: case 5: case 6: return "" + lot.nextInt(lot.nextBoolean() ? 10 : 400);
            case 7: return "(" + e(depth - 1) + ")";
            case 8: return "-" + e(depth - 1);
            case 9: return "not " + e(depth - 1);
            case 10: return e(depth - 1) + (lot.nextBoolean() ? " or " : " and ") + e(depth - 1);
            case 11: return e(depth - 1) + (lot.nextBoolean() ? "<" : "=") + e(depth - 1);
            case 12: return e(depth - 1) + (lot.nextBoolean() ? "+" : "-") + e(depth - 1);
            default: return e(depth - 1) + "*" + e(depth - 1);
        }
    }

    private String law() {
        if (lot.nextInt(2) == 0) {
            return LAWS[lot.nextInt(LAWS.length)];
        }
        StringBuilder text = new StringBuilder("warms " + e(3) + ";cools " + e(3) + ";looks " + e(3) + ";");
        if (lot.nextInt(4) == 0) {
            int at = lot.nextInt(text.length());
            text.insert(at, PIECES[lot.nextInt(PIECES.length)]);
        }
        if (lot.nextInt(8) == 0) {
            text.setLength(lot.nextInt(text.length()));
        }
        return text.toString();
    }

    private void comeByLaw(String law) {
        tape(law);
        int t = m.text();
        due("text() of " + law, t, x.text());
        if (t >= 0) {
            due("force", m.force(t), x.force(t));
        }
    }

    private void begin() {
        if (run % 4 != 0) {
            comeByLaw(law());
        }
        int faces = lot.nextInt(6);
        for (int f = 0; f < faces; f++) {
            int kindMore = lot.nextInt(60);
            int warm = warmth();
            int s = lot.nextInt(8);
            due("face", m.face(kindMore, warm, s), x.face(kindMore, warm, s));
        }
        for (int s = 0; s < 8; s++) {
            int v = lot.nextInt(10);
            due("lamp", m.lamp(s, v), x.lamp(s, v));
        }
    }

    private void call(int call) {
        switch (lot.nextInt(12)) {
            case 0: case 1: case 2: change(); break;
            case 3: host(); break;
            case 4: case 5: case 6: ask(); break;
            case 7: case 8: think(); break;
            case 9: case 10: films(); break;
            default: byLot(); break;
        }
        if (call % 25 == 0) {
            all();
        }
    }

    private void change() {
        int a = from(0, 59);
        int b = warmth();
        int c = from(0, 7);
        int f = aFace();
        switch (lot.nextInt(12)) {
            case 0: due("face", m.face(a, b, c), x.face(a, b, c)); break;
            case 1: due("warm", m.warm(f, b), x.warm(f, b)); break;
            case 2: due("sit", m.sit(f, c), x.sit(f, c)); break;
            case 3: a = from(0, 9); due("lamp", m.lamp(c, a), x.lamp(c, a)); break;
            case 4: a = from(0, 39); due("cause", m.cause(a, f, b), x.cause(a, f, b)); break;
            case 5: due("uncause", m.uncause(), x.uncause()); break;
            case 6: a = from(0, 40); due("pass", m.pass(a), x.pass(a)); break;
            case 7: due("image", m.image(), x.image()); break;
            case 8: due("back", m.back(), x.back()); break;
            case 9: a = from(0, m.texts.size() - 1); due("force", m.force(a), x.force(a)); break;
            case 10:
                if (m.texts.size() < 6 || lot.nextInt(5) == 0) {
                    comeByLaw(law());
                }
                break;
            default:
                a = from(1, 5);
                b = from(0, 255);
                due("feed", m.feed(a, b, 1, 2, 3, c), x.feed(a, b, 1, 2, 3, c));
        }
    }

    private void ask() {
        int f = aFace();
        int n = from(0, 40);
        int what = from(0, 2);
        switch (lot.nextInt(9)) {
            case 0: what = from(0, 4); due("count", m.count(what), x.count(what)); break;
            case 1:
                int warm = from(0, 400);
                int looksLight = from(0, 49);
                int secondSeen = tens(40, 1);
                int more = from(0, 9);
                due("asks", m.asks(what, warm, looksLight, secondSeen, more),
                    x.asks(what, warm, looksLight, secondSeen, more));
                break;
            case 2: what = from(0, 5); due("told", m.told(f, what), x.told(f, what)); break;
            case 3: n = from(0, 7); due("causeTold", m.causeTold(n, what), x.causeTold(n, what)); break;
            case 4: due("at", m.at(n, f, what), x.at(n, f, what)); break;
            case 5: what = from(0, 4); due("red", m.red(f, what), x.red(f, what)); break;
            case 6: due("row", m.row(n, what), x.row(n, what)); break;
            case 7: due("dies", m.dies(f), x.dies(f)); break;
            default: what = from(0, 12); n = from(0, 6); due("taken", m.taken(what, n), x.taken(what, n));
        }
    }

    private void think() {
        int f = aFace();
        int g = aFace();
        int what = from(0, 1);
        int s = from(0, 7);
        switch (lot.nextInt(14)) {
            case 0: due("line", m.line(f), x.line(f)); break;
            case 1:
                int stop = lot.nextInt(10) == 0 ? from(0, 319) : 100 * lot.nextInt(4) + lot.nextInt(20);
                what = from(0, 4);
                due("stops " + stop, m.stops(f, stop, what), x.stops(f, stop, what));
                break;
            case 2:
                if (lot.nextInt(4) == 0) {
                    due("best", m.best(f, what), x.best(f, what));
                }
                break;
            case 3: what = from(0, 3); due("latest", m.latest(f, what), x.latest(f, what)); break;
            case 4: due("adds", m.adds(f, g), x.adds(f, g)); break;
            case 5: due("turn", m.turn(f, what), x.turn(f, what)); break;
            case 6: due("stares", m.stares(f), x.stares(f)); break;
            case 7: due("where", m.where(f, what), x.where(f, what)); break;
            case 8: due("change", m.change(what), x.change(what)); break;
            case 9: due("shade", m.shade(s, what), x.shade(s, what)); break;
            case 10: what = from(0, 400); due("sets", m.sets(f, what), x.sets(f, what)); break;
            case 11: due("needs", m.needs(f), x.needs(f)); break;
            case 12: s = from(0, 400); g = from(0, 40); due("asked", m.asked(s, g), x.asked(s, g)); break;
            default:
                s = lot.nextInt(10) == 0 ? from(0, 400400) : 1000 * lot.nextInt(401) + lot.nextInt(401);
                s = lot.nextInt(3) == 0 ? 1000 * lot.nextInt(60) + lot.nextInt(90) : s;
                g = from(0, 40);
                due("guilty", m.guilty(f, s, g, what), x.guilty(f, s, g, what));
        }
    }

    private void films() {
        int f = aFace();
        int s = from(0, 3);
        int other = from(0, Math.max(0, m.w.n - 1));
        int n = lot.nextInt(3) == 0 ? from(0, 8) : from(1, 2);
        int much = warmth();
        // a film that was true of a world somewhat otherwise
        switch (lot.nextInt(9)) {
            case 0: due("film", m.film(s, other, n), x.film(s, other, n)); break;
            case 1:
                int second = from(0, 39);
                due("image", m.image(), x.image());
                due("cause", m.cause(second, other, much), x.cause(second, other, much));
                due("film", m.film(s, other, n), x.film(s, other, n));
                due("back", m.back(), x.back());
                due("began", m.began(s, other, much), x.began(s, other, much));
                break;
            case 2: due("judge", m.judge(s, f), x.judge(s, f)); break;
            case 3: due("whose", m.whose(s), x.whose(s)); break;
            case 4: due("began", m.began(s, f, much), x.began(s, f, much)); break;
            case 5:
                int muchAt = lot.nextInt(10) == 0 ? from(0, 40039) : 100 * lot.nextInt(401) + lot.nextInt(40);
                due("through", m.through(s, f, muchAt), x.through(s, f, muchAt));
                break;
            case 6: n = from(0, 1); due("kinds", m.kinds(s, f, n), x.kinds(s, f, n)); break;
            case 7: due("laws", m.laws(s, f), x.laws(s, f)); break;
            default:
                n = from(0, 1);
                due("film", m.film(s, f, 2), x.film(s, f, 2));
                due("kinds", m.kinds(s, f, n), x.kinds(s, f, n));
                due("laws", m.laws(s, f), x.laws(s, f));
                due("whose", m.whose(s), x.whose(s));
        }
    }

    private void byLot() {
        int seed = from(0, 99999);
        int much = warmth();
        if (lot.nextInt(2) == 0) {
            due("drawn", m.drawn(seed, much), x.drawn(seed, much));
        } else {
            int seeds = from(1, 20);
            int facePart = 10 * aFace() + from(0, 1);
            due("odds", m.odds(seed, seeds, much, facePart), x.odds(seed, seeds, much, facePart));
        }
    }

    private void host() {
        int s = from(0, 3);
        int sort = lot.nextInt(2) == 0 ? 2 : from(-1, 2);
        int i = lot.nextInt(3) == 0 ? from(0, 39) : from(0, 8);
        int j = lot.nextInt(3) == 0 ? from(0, 39) : from(0, 8);
        int n = from(0, 5);
        int other = from(0, 3);
        switch (lot.nextInt(5)) {
            case 0: n = from(0, lot.nextBoolean() ? 8 : 40); due("sheet", m.sheet(s, sort, n), x.sheet(s, sort, n)); break;
            case 1: case 2: j = lot.nextInt(3) == 0 ? lot.nextInt() : warmth(); due("cell", m.cell(s, i, j), x.cell(s, i, j)); break;
            case 3: due("copy", m.copy(s, i, other, j, n), x.copy(s, i, other, j, n)); break;
            default: due("facesBy", m.facesBy(s, sort, i, n), x.facesBy(s, sort, i, n));
        }
    }

    /** All that is held is as the model holds it. */
    private void all() {
        for (int what = 0; what < 5; what++) {
            due("count", m.count(what), x.count(what));
        }
        for (int f = 0; f < 5; f++) {
            for (int what = 0; what < 6; what++) {
                due("told", m.told(f, what), x.told(f, what));
            }
        }
        for (int k = 0; k < 8; k++) {
            for (int what = 0; what < 3; what++) {
                due("causeTold", m.causeTold(k, what), x.causeTold(k, what));
            }
        }
        for (int i = 0; i < 13; i++) {
            for (int kind = 0; kind < 7; kind++) {
                due("taken", m.taken(i, kind), x.taken(i, kind));
            }
        }
        for (int s = 0; s < 4; s++) {
            due("whose", m.whose(s), x.whose(s));
        }
    }
}
