import java.util.ArrayList;
import java.util.List;
import java.util.TreeMap;
import java.util.function.IntBinaryOperator;

/** The document once more, written for likeness to its words and not for speed: all SECONDS of all FACES at once. */
final class Model {
    static final long NO = -4611686018427387904L;

    /** KINDS as the document tells them: each says what it says otherwise than the KIND above. */
    static class Face {
        int more;
        int warms(int said, boolean red) { return said; }
        int cools(int said, int w) { return said; }
        int from(int light) { return 60 - 4 * light; }
    }
    static class Shy extends Face {
        @Override int warms(int said, boolean red) { return red ? super.warms(said, red) * 2 : super.warms(said, red); }
    }
    static class Dark extends Face {
        @Override int from(int light) { return super.from(light) + 10 * more; }
    }
    static class Runaway extends Shy {
        @Override int warms(int said, boolean red) { return super.warms(said, red) + more; }
        @Override int cools(int said, int w) { return w > 200 ? super.cools(said, w) / 2 : super.cools(said, w); }
    }
    static class Beard extends Dark {
        @Override int from(int light) { return super.from(light / 2) + 20; }
    }
    static class Wined extends Face {
        @Override int warms(int said, boolean red) { return super.warms(said, red) / 2 + 1; }
        @Override int cools(int said, int w) { return w < 10 * more ? 0 : super.cools(said, w); }
    }

    static Face of(int kind, int more) {
        Face f = switch (kind) {
            case 0 -> new Face();
            case 1 -> new Shy();
            case 2 -> new Dark();
            case 3 -> new Runaway();
            case 4 -> new Beard();
            default -> new Wined();
        };
        f.more = more;
        return f;
    }

    private static final Class<?>[] KINDS =
        {Face.class, Shy.class, Dark.class, Runaway.class, Beard.class, Wined.class};

    // ---- texts

    interface E { int in(TreeMap<String, Integer> names); }

    record Text(E warms, E cools, E looks) { }

    static final class Fault extends RuntimeException {
        final int place;
        Fault(int place) { this.place = place; }
    }

    record Token(String is, int place) { }

    static final List<String> NAMES = List.of("warmth", "glances", "light", "second", "seen", "more");
    static final List<String> KEYS = List.of("warms", "cools", "looks", "or", "and", "not");

    static final class Parser {
        final String text;
        final List<Token> tokens = new ArrayList<>();
        int next = 0;
        int open = 0;

        Parser(String text) {
            this.text = text;
            var m = java.util.regex.Pattern.compile("[a-z]+|[0-9]+|[^ \n]", java.util.regex.Pattern.DOTALL).matcher(text);
            while (m.find()) {
                tokens.add(new Token(m.group(), m.start()));
            }
            tokens.add(new Token("", text.length()));
        }

        String sees() {
            return tokens.get(next).is;
        }

        Fault fault() {
            return new Fault(tokens.get(next).place);
        }

        void must(String s) {
            if (!sees().equals(s)) {
                throw fault();
            }
            next++;
        }

        boolean may(String s) {
            if (sees().equals(s)) {
                next++;
                return true;
            }
            return false;
        }

        void opens() {
            if (open == 5) {
                next--;
                throw fault();
            }
            open++;
        }

        Text text() {
            must("warms");
            E w = or();
            must(";");
            must("cools");
            E c = or();
            must(";");
            must("looks");
            E l = or();
            must(";");
            must("");
            return new Text(w, c, l);
        }

        E join(E a, E b, IntBinaryOperator how) {
            return names -> how.applyAsInt(a.in(names), b.in(names));
        }

        E or() {
            E e = and();
            while (may("or")) {
                e = join(e, and(), (a, b) -> (a != 0) | (b != 0) ? 1 : 0);
            }
            return e;
        }

        E and() {
            E e = not();
            while (may("and")) {
                e = join(e, not(), (a, b) -> (a != 0) & (b != 0) ? 1 : 0);
            }
            return e;
        }

        E not() {
            if (may("not")) {
                opens();
                E e = not();
                open--;
                return names -> e.in(names) == 0 ? 1 : 0;
            }
            E e = sum();
            if (may("<")) {
                return join(e, sum(), (a, b) -> a < b ? 1 : 0);
            }
            if (may("=")) {
                return join(e, sum(), (a, b) -> a == b ? 1 : 0);
            }
            return e;
        }

        E sum() {
            E e = term();
            while (true) {
                if (may("+")) {
                    e = join(e, term(), (a, b) -> a + b);
                } else if (may("-")) {
                    e = join(e, term(), (a, b) -> a - b);
                } else {
                    return e;
                }
            }
        }

        E term() {
            E e = one();
            while (may("*")) {
                e = join(e, one(), (a, b) -> a * b);
            }
            return e;
        }

        E one() {
            String s = sees();
            if (s.matches("[0-9]{1,4}")) {
                next++;
                int v = Integer.parseInt(s);
                return names -> v;
            }
            if (NAMES.contains(s)) {
                next++;
                return names -> names.get(s);
            }
            if (may("-")) {
                opens();
                E e = one();
                open--;
                return names -> -e.in(names);
            }
            if (may("(")) {
                opens();
                E e = or();
                must(")");
                open--;
                return e;
            }
            throw fault();
        }
    }

    // ---- the state

    record Cause(int second, int face, int much) { }

    static final class World {
        int n = 0;
        int[] kind = new int[5];
        int[] more = new int[5];
        int[] warmth = new int[5];
        int[] seat = new int[5];
        int[] light = new int[8];
        List<Cause> causes = new ArrayList<>();
        int law = 0;

        World copy() {
            World w = new World();
            w.n = n;
            w.kind = kind.clone();
            w.more = more.clone();
            w.warmth = warmth.clone();
            w.seat = seat.clone();
            w.light = light.clone();
            w.causes = new ArrayList<>(causes);
            w.law = law;
            return w;
        }

        void sit(int f, int s) {
            for (int g = 0; g < n; g++) {
                if (g != f && seat[g] == s) {
                    seat[g] = seat[f];
                }
            }
            seat[f] = s;
        }
    }

    World w = new World();
    World image = null;
    List<Text> texts = new ArrayList<>();
    StringBuilder tape = new StringBuilder();
    Object[] sheets = new Object[4];

    Model() {
        texts.add(new Parser("warms glances * 4 + seen * 3 ; cools 3 ; looks seen or second < more ;").text());
    }

    // ---- seconds

    /** What may be otherwise in thought. */
    static class Thought {
        boolean looks(int who, int at, int second) { return true; }
        int warms(int f, int second, int much, int more) { return much; }
        int cools(int f, int second, int much) { return much; }
        int caused(int f, int second) { return 0; }
        int drawn(int f, int second) { return 0; }
    }

    static final Thought NONE = new Thought();

    static final class Film {
        int[][] warmth = new int[41][5];
        int[][] looked = new int[41][5];
        int[] from = new int[5];
        int n;

        boolean red(int behind, int f) { return warmth[behind][f] >= from[f]; }

        int reds(int f) {
            int c = 0;
            for (int s = 0; s < 40; s++) {
                c += red(s + 1, f) ? 1 : 0;
            }
            return c;
        }

        int allReds() {
            int c = 0;
            for (int f = 0; f < n; f++) {
                c += reds(f);
            }
            return c;
        }

        int felt(int f) {
            int c = 0;
            for (int s = 0; s < 40; s++) {
                c += warmth[s + 1][f];
            }
            return c;
        }

        boolean hot(int f) {
            for (int s = 0; s <= 40; s++) {
                if (warmth[s][f] == 400) {
                    return true;
                }
            }
            return false;
        }

        int told(int f, int what) {
            if (what == 0) {
                int most = 0;
                for (int s = 0; s <= 40; s++) {
                    most = Math.max(most, warmth[s][f]);
                }
                return most;
            }
            if (what == 1) {
                return reds(f);
            }
            if (what == 4) {
                return felt(f);
            }
            int first = -1;
            int last = -1;
            for (int s = 39; s >= 0; s--) {
                first = red(s + 1, f) ? s : first;
            }
            for (int s = 0; s < 40; s++) {
                last = red(s + 1, f) ? s : last;
            }
            return what == 2 ? first : last;
        }
    }

    static int within(int low, int v, int high) {
        return v < low ? low : v > high ? high : v;
    }

    Film film(World w, Thought thought) {
        Film film = new Film();
        film.n = w.n;
        Text law = texts.get(w.law);
        for (int f = 0; f < w.n; f++) {
            film.warmth[0][f] = w.warmth[f];
            film.from[f] = Math.max(1, of(w.kind[f], w.more[f]).from(w.light[w.seat[f]]));
        }
        for (int s = 0; s < 40; s++) {
            for (int f = 0; f < w.n; f++) {
                for (int who = 0; who < w.n; who++) {
                    if (who != f && thought.looks(who, f, s)
                        && law.looks.in(names(w, film, s, f, film.looked[s][f], w.more[who])) != 0) {
                        film.looked[s + 1][f]++;
                    }
                }
            }
            for (int f = 0; f < w.n; f++) {
                var names = names(w, film, s, f, film.looked[s + 1][f], w.more[f]);
                Face kind = of(w.kind[f], w.more[f]);
                int now = film.warmth[s][f];
                int warmer = kind.warms(within(0, law.warms.in(names), 99), film.red(s, f));
                warmer = thought.warms(f, s, warmer, w.more[f]);
                for (Cause c : w.causes) {
                    warmer += c.second == s && c.face == f ? c.much : 0;
                }
                warmer += thought.caused(f, s);
                int cooler = thought.cools(f, s, kind.cools(within(0, law.cools.in(names), 99), now));
                int then = within(0, now + warmer - cooler, 400);
                film.warmth[s + 1][f] = Math.min(400, then + thought.drawn(f, s));
            }
        }
        return film;
    }

    TreeMap<String, Integer> names(World w, Film film, int s, int f, int glances, int more) {
        TreeMap<String, Integer> names = new TreeMap<>();
        names.put("warmth", film.warmth[s][f]);
        names.put("glances", glances);
        names.put("light", w.light[w.seat[f]]);
        names.put("second", s);
        names.put("seen", film.red(s, f) ? 1 : 0);
        names.put("more", more);
        return names;
    }

    Film now() {
        return film(w, NONE);
    }

    Film stopped(int one, int which, int at) {
        return film(w, new Thought() {
            boolean in(int f, int s, int length) { return f == one && s >= at && s <= at + length - 1; }
            @Override boolean looks(int who, int f, int s) { return !(which == 0 && in(f, s, 10)); }
            @Override int cools(int f, int s, int much) { return which == 1 && in(f, s, 5) ? much + 15 : much; }
            @Override int caused(int f, int s) { return which == 2 && in(f, s, 1) ? 30 : 0; }
            @Override int warms(int f, int s, int much, int more) {
                if (which == 2 && in(f, s, 1000)) {
                    return much / 2;
                }
                return which == 3 && in(f, s, 10) ? Math.max(0, much - more - more) : much;
            }
        });
    }

    Film blind(int one, int to) {
        return film(w, new Thought() {
            @Override boolean looks(int who, int f, int s) { return !(who == one && (to < 0 || f == to)); }
        });
    }

    Film caused(int one, int at, int much) {
        World more = w.copy();
        more.causes.add(new Cause(at, one, much));
        return film(more, NONE);
    }

    Film drawnBy(int seed, int much) {
        int[] at = new int[5];
        java.math.BigInteger lot = java.math.BigInteger.valueOf(seed + 1L);
        for (int f = 0; f < 5; f++) {
            lot = lot.multiply(java.math.BigInteger.valueOf(48271)).mod(java.math.BigInteger.valueOf(2147483647));
            at[f] = lot.mod(java.math.BigInteger.valueOf(80)).intValue();
        }
        return film(w, new Thought() {
            @Override int drawn(int f, int s) { return at[f] == s ? much : 0; }
        });
    }

    // ---- the calls

    static boolean in(long v, long low, long high) {
        return low <= v && v <= high;
    }

    boolean face(int f) {
        return in(f, 0, w.n - 1);
    }

    int count(int what) {
        int[] counts = {w.n, w.causes.size(), texts.size(), w.law, tape.length()};
        return in(what, 0, 4) ? counts[what] : -2;
    }

    int feed(int n, int... five) {
        for (int b : five) {
            if (!in(b, 0, 255)) {
                return -2;
            }
        }
        if (!in(n, 1, 5)) {
            return -2;
        }
        if (tape.length() + n > 160) {
            return -4;
        }
        for (int i = 0; i < n; i++) {
            tape.append((char) five[i]);
        }
        return tape.length();
    }

    int text() {
        if (texts.size() == 6) {
            return -4;
        }
        String s = tape.toString();
        tape.setLength(0);
        try {
            texts.add(new Parser(s).text());
            return texts.size() - 1;
        } catch (Fault fault) {
            return -100 - fault.place;
        }
    }

    int force(int t) {
        if (!in(t, 0, texts.size() - 1)) {
            return -2;
        }
        int was = w.law;
        w.law = t;
        return was;
    }

    int asks(int part, int warm, int looksLight, int secondSeen, int more) {
        if (!in(part, 0, 2) || !in(warm, 0, 400) || !in(looksLight, 0, 49) || !in(secondSeen, 0, 401)
            || secondSeen % 10 > 1 || !in(more, 0, 9)) {
            return -2;
        }
        TreeMap<String, Integer> names = new TreeMap<>();
        names.put("warmth", warm);
        names.put("glances", looksLight / 10);
        names.put("light", looksLight % 10);
        names.put("second", secondSeen / 10);
        names.put("seen", secondSeen % 10);
        names.put("more", more);
        Text law = texts.get(w.law);
        if (part == 2) {
            return law.looks.in(names) != 0 ? 1 : 0;
        }
        return within(0, (part == 0 ? law.warms : law.cools).in(names), 99);
    }

    int face(int kindMore, int warm, int s) {
        if (!in(kindMore, 0, 59) || !in(warm, 0, 400) || !in(s, 0, 7)) {
            return -2;
        }
        if (w.n == 5) {
            return -4;
        }
        for (int f = 0; f < w.n; f++) {
            if (w.seat[f] == s) {
                return -3;
            }
        }
        w.kind[w.n] = kindMore / 10;
        w.more[w.n] = kindMore % 10;
        w.warmth[w.n] = warm;
        w.seat[w.n] = s;
        return w.n++;
    }

    int warm(int f, int v) {
        if (!face(f)) {
            return -5;
        }
        if (!in(v, 0, 400)) {
            return -7;
        }
        int was = w.warmth[f];
        w.warmth[f] = v;
        return was;
    }

    int sit(int f, int s) {
        if (!face(f)) {
            return -5;
        }
        if (!in(s, 0, 7)) {
            return -7;
        }
        int was = w.seat[f];
        w.sit(f, s);
        return was;
    }

    int lamp(int s, int v) {
        if (!in(s, 0, 7)) {
            return -5;
        }
        if (!in(v, 0, 9)) {
            return -7;
        }
        int was = w.light[s];
        w.light[s] = v;
        return was;
    }

    int told(int f, int what) {
        if (!face(f)) {
            return -5;
        }
        if (!in(what, 0, 5)) {
            return -7;
        }
        int light = w.light[w.seat[f]];
        int[] all = {w.warmth[f], w.seat[f], w.kind[f], w.more[f], light,
            Math.max(1, of(w.kind[f], w.more[f]).from(light))};
        return all[what];
    }

    int cause(int at, int f, int much) {
        if (!face(f)) {
            return -5;
        }
        if (!in(at, 0, 39) || !in(much, 0, 400)) {
            return -7;
        }
        if (w.causes.size() == 8) {
            return -4;
        }
        w.causes.add(new Cause(at, f, much));
        return w.causes.size() - 1;
    }

    int uncause() {
        if (w.causes.isEmpty()) {
            return -3;
        }
        w.causes.remove(w.causes.size() - 1);
        return w.causes.size();
    }

    int causeTold(int k, int what) {
        if (!in(k, 0, w.causes.size() - 1)) {
            return -5;
        }
        Cause c = w.causes.get(k);
        return what == 0 ? c.second : what == 1 ? c.face : what == 2 ? c.much : -7;
    }

    int at(int n, int f, int what) {
        if (!in(n, 0, 40) || !face(f)) {
            return -5;
        }
        if (!in(what, 0, 2)) {
            return -7;
        }
        Film film = now();
        return what == 0 ? film.warmth[n][f] : what == 1 ? (film.red(n, f) ? 1 : 0) : film.looked[n][f];
    }

    int red(int f, int what) {
        return !face(f) ? -5 : !in(what, 0, 4) ? -7 : now().told(f, what);
    }

    int row(int n, int what) {
        if (!in(n, 0, 40)) {
            return -5;
        }
        if (!in(what, 0, 2)) {
            return -7;
        }
        Film film = now();
        int answer = 0;
        for (int f = 0; f < w.n; f++) {
            if (what == 1) {
                answer += film.warmth[n][f];
            } else if (what == 0 ? film.red(n, f) : film.warmth[n][f] == 400) {
                answer += 1 << f;
            }
        }
        return answer;
    }

    int pass(int n) {
        if (!in(n, 0, 40)) {
            return -2;
        }
        Film film = now();
        int red = 0;
        for (int f = 0; f < w.n; f++) {
            w.warmth[f] = film.warmth[n][f];
            red += film.red(n, f) ? 1 : 0;
        }
        return red;
    }

    int dies(int f) {
        if (!face(f)) {
            return -5;
        }
        Film film = now();
        return film.hot(f) ? 2 : film.red(40, f) ? 1 : 0;
    }

    int line(int f) {
        if (!face(f)) {
            return -5;
        }
        int found = -1;
        for (int v = 0; v <= 390; v += 10) {
            World other = w.copy();
            other.warmth[f] = v;
            if (!film(other, NONE).hot(f)) {
                found = v;
            }
        }
        return found;
    }

    int stops(int f, int stopSecond, int what) {
        if (!face(f)) {
            return -5;
        }
        if (!in(stopSecond, 0, 319) || stopSecond % 100 > 19 || !in(what, 0, 4)) {
            return -7;
        }
        return stopped(f, stopSecond / 100, stopSecond % 100).told(f, what);
    }

    int best(int f, int what) {
        if (!face(f)) {
            return -5;
        }
        if (!in(what, 0, 1)) {
            return -7;
        }
        int few = now().reds(f);
        int found = -1;
        for (int stop = 0; stop <= 319; stop++) {
            if (stop % 100 <= 19) {
                int reds = stopped(f, stop / 100, stop % 100).reds(f);
                if (reds < few) {
                    few = reds;
                    found = stop;
                }
            }
        }
        return what == 0 ? found : few;
    }

    int latest(int f, int which) {
        if (!face(f)) {
            return -5;
        }
        if (!in(which, 0, 3)) {
            return -7;
        }
        int found = -1;
        for (int at = 0; at <= 19; at++) {
            if (!stopped(f, which, at).red(40, f)) {
                found = at;
            }
        }
        return found;
    }

    int adds(int f, int who) {
        return !face(f) || !face(who) || f == who ? -100000 : now().felt(f) - blind(who, f).felt(f);
    }

    int turn(int f, int what) {
        if (!face(f) || !in(what, 0, 1)) {
            return -100000;
        }
        int found = -1;
        for (int who = 0; who < w.n; who++) {
            if (who != f && (found < 0 || adds(f, who) > adds(f, found))) {
                found = who;
            }
        }
        return what == 0 ? found : found < 0 ? 0 : adds(f, found);
    }

    int stares(int who) {
        if (!face(who)) {
            return -100000;
        }
        int sum = 0;
        for (int f = 0; f < w.n; f++) {
            if (f != who) {
                sum += now().felt(f) - blind(who, -1).felt(f);
            }
        }
        return sum;
    }

    int where(int f, int what) {
        if (!face(f)) {
            return -5;
        }
        if (!in(what, 0, 1)) {
            return -7;
        }
        int found = -1;
        int few = 1000;
        for (int s = 0; s < 8; s++) {
            World other = w.copy();
            other.sit(f, s);
            int reds = film(other, NONE).reds(f);
            if (reds < few) {
                few = reds;
                found = s;
            }
        }
        return what == 0 ? found : few;
    }

    int change(int what) {
        if (!in(what, 0, 1)) {
            return -2;
        }
        int found = -1;
        int few = now().allReds();
        for (int f = 0; f < w.n; f++) {
            for (int g = f + 1; g < w.n; g++) {
                World other = w.copy();
                other.seat[f] = w.seat[g];
                other.seat[g] = w.seat[f];
                int reds = film(other, NONE).allReds();
                if (reds < few) {
                    few = reds;
                    found = 10 * f + g;
                }
            }
        }
        return what == 0 ? found : few;
    }

    int shade(int s, int what) {
        if (!in(s, 0, 7)) {
            return -5;
        }
        if (!in(what, 0, 1)) {
            return -7;
        }
        int found = -1;
        int few = 1000;
        for (int v = 0; v <= 9; v++) {
            World other = w.copy();
            other.light[s] = v;
            int reds = film(other, NONE).allReds();
            if (reds < few) {
                few = reds;
                found = v;
            }
        }
        return what == 0 ? found : few;
    }

    int sets(int f, int much) {
        if (!face(f)) {
            return -5;
        }
        if (!in(much, 0, 400)) {
            return -7;
        }
        int bits = 0;
        for (int g = 0; g < w.n; g++) {
            if (g != f && now().reds(g) == 0 && caused(f, 0, much).reds(g) > 0) {
                bits |= 1 << g;
            }
        }
        return bits;
    }

    int needs(int f) {
        if (!face(f)) {
            return -5;
        }
        for (int much = 0; much <= 400; much += 10) {
            if (caused(f, 0, much).reds(f) > 0) {
                return much;
            }
        }
        return -1;
    }

    int asked(int much, int n) {
        if (!in(much, 0, 400) || !in(n, 0, 40)) {
            return -2;
        }
        int bits = 0;
        for (int f = 0; f < w.n; f++) {
            bits |= caused(f, 0, much).red(n, f) ? 1 << f : 0;
        }
        return bits;
    }

    static long lowest(long above, long below, int part) {
        long g = java.math.BigInteger.valueOf(above).gcd(java.math.BigInteger.valueOf(below)).longValue();
        return part == 0 ? above / g : below / g;
    }

    long guilty(int f, int muchMore, int n, int part) {
        if (!face(f) || muchMore < 0 || muchMore / 1000 > 400 || muchMore % 1000 > 400 || !in(n, 0, 40)
            || !in(part, 0, 1)) {
            return NO;
        }
        int much = muchMore / 1000;
        int cases = 0;
        int his = 0;
        for (int g = 0; g < w.n; g++) {
            int byHim = g == f ? Math.min(400, much + muchMore % 1000) : much;
            if (caused(f, 0, byHim).red(n, f)) {
                cases++;
                his += g == f ? 1 : 0;
            }
        }
        return cases == 0 ? NO : lowest(his, cases, part);
    }

    // ---- told films

    int refusal(int s) {
        return !in(s, 0, 3) ? -2 : sheets[s] == null ? -11 : length(sheets[s]) > 8 ? -2 : 0;
    }

    static int length(Object sheet) {
        return java.lang.reflect.Array.getLength(sheet);
    }

    static int get(Object sheet, int i) {
        return java.lang.reflect.Array.getInt(sheet, i);
    }

    int other(int s, int f, Film film) {
        for (int i = 0; i < length(sheets[s]); i++) {
            if (get(sheets[s], i) != film.warmth[5 * i + 5][f]) {
                return i;
            }
        }
        return -1;
    }

    int judge(int s, int f) {
        return refusal(s) != 0 ? refusal(s) : !face(f) ? -5 : other(s, f, now());
    }

    int whose(int s) {
        if (refusal(s) != 0) {
            return refusal(s);
        }
        int bits = 0;
        for (int f = 0; f < w.n; f++) {
            bits |= other(s, f, now()) == -1 ? 1 << f : 0;
        }
        return bits;
    }

    long began(int s, int f, int much) {
        if (refusal(s) != 0 || !face(f) || !in(much, 0, 400)) {
            return NO;
        }
        long bits = 0;
        for (int at = 0; at < 40; at++) {
            bits |= other(s, f, caused(f, at, much)) == -1 ? 1L << at : 0;
        }
        return bits;
    }

    int through(int s, int f, int muchAt) {
        if (refusal(s) != 0) {
            return refusal(s);
        }
        if (!face(f)) {
            return -5;
        }
        if (muchAt < 0 || muchAt / 100 > 400 || muchAt % 100 > 39) {
            return -7;
        }
        int bits = 0;
        for (int g = 0; g < w.n; g++) {
            if (g != f && other(s, f, caused(g, muchAt % 100, muchAt / 100)) == -1) {
                bits |= 1 << g;
            }
        }
        return bits;
    }

    int kinds(int s, int f, int sort) {
        if (refusal(s) != 0) {
            return refusal(s);
        }
        if (!face(f)) {
            return -5;
        }
        if (!in(sort, 0, 1)) {
            return -7;
        }
        int bits = 0;
        for (int v = 0; v < (sort == 0 ? 6 : 10); v++) {
            World other = w.copy();
            (sort == 0 ? other.kind : other.more)[f] = v;
            bits |= other(s, f, film(other, NONE)) == -1 ? 1 << v : 0;
        }
        return bits;
    }

    int laws(int s, int f) {
        if (refusal(s) != 0) {
            return refusal(s);
        }
        if (!face(f)) {
            return -5;
        }
        int bits = 0;
        for (int t = 0; t < texts.size(); t++) {
            World other = w.copy();
            other.law = t;
            bits |= other(s, f, film(other, NONE)) == -1 ? 1 << t : 0;
        }
        return bits;
    }

    int film(int s, int f, int n) {
        if (!in(s, 0, 3)) {
            return -2;
        }
        if (!face(f)) {
            return -5;
        }
        if (!in(n, 0, 8)) {
            return -7;
        }
        int[] row = new int[n];
        Film film = now();
        for (int i = 0; i < n; i++) {
            row[i] = film.warmth[5 + 5 * i][f];
        }
        sheets[s] = row;
        return n;
    }

    int drawn(int seed, int much) {
        if (!in(seed, 0, 99999) || !in(much, 0, 400)) {
            return -2;
        }
        Film film = drawnBy(seed, much);
        int bits = 0;
        for (int f = 0; f < w.n; f++) {
            bits |= film.reds(f) > 0 ? 1 << f : 0;
        }
        return bits;
    }

    long odds(int seed, int seeds, int much, int facePart) {
        if (!in(seed, 0, 99999) || !in(seeds, 1, 20) || !in(much, 0, 400) || facePart < 0 || facePart % 10 > 1
            || !face(facePart / 10)) {
            return NO;
        }
        int red = 0;
        for (int i = 0; i < seeds; i++) {
            red += drawnBy(seed + i, much).reds(facePart / 10) > 0 ? 1 : 0;
        }
        return lowest(red, seeds, facePart % 10);
    }

    int image() {
        image = w.copy();
        return w.n;
    }

    int back() {
        if (image == null) {
            return -3;
        }
        w = image.copy();
        return w.n;
    }

    // ---- the host: Java's own arrays, and what Java's machine throws

    int sheet(int s, int sort, int n) {
        if (!in(s, 0, 3) || !in(sort, -1, 2) || sort >= 0 && n > 40) {
            return -2;
        }
        try {
            sheets[s] = sort < 0 ? null : sort == 0 ? new byte[n] : sort == 1 ? new short[n] : new int[n];
            return 1;
        } catch (NegativeArraySizeException e) {
            return -14;
        }
    }

    int cell(int s, int i, int v) {
        if (!in(s, 0, 3)) {
            return -2;
        }
        try {
            Object sheet = sheets[s];
            if (sheet instanceof byte[] b) {
                b[i] = (byte) v;
            } else if (sheet instanceof short[] h) {
                h[i] = (short) v;
            } else {
                ((int[]) sheet)[i] = v;
            }
            return 1;
        } catch (NullPointerException e) {
            return -11;
        } catch (ArrayIndexOutOfBoundsException e) {
            return -12;
        }
    }

    int copy(int s, int i, int other, int j, int n) {
        if (!in(s, 0, 3) || !in(other, 0, 3)) {
            return -2;
        }
        try {
            System.arraycopy(sheets[s], i, sheets[other], j, n);
            return n;
        } catch (NullPointerException e) {
            return -11;
        } catch (ArrayStoreException e) {
            return -13;
        } catch (ArrayIndexOutOfBoundsException e) {
            return -12;
        }
    }

    int facesBy(int s, int sort, int at, int n) {
        if (!in(s, 0, 3) || !in(sort, 0, 2) || !in(n, 0, 5)) {
            return -2;
        }
        if (sheets[s] == null) {
            return -11;
        }
        Class<?>[] sorts = {byte[].class, short[].class, int[].class};
        if (!sorts[sort].isInstance(sheets[s])) {
            return -13;
        }
        int came = 0;
        for (int k = 0; k < n; k++) {
            for (long p = at + 3L * k; p < at + 3L * k + 3; p++) {
                if (!in(p, 0, length(sheets[s]) - 1)) {
                    return -12;
                }
            }
            int p = at + 3 * k;
            came += face(get(sheets[s], p), get(sheets[s], p + 1), get(sheets[s], p + 2)) >= 0 ? 1 : 0;
        }
        return came;
    }

    int taken(int i, int kind) {
        if (!in(kind, 0, 6)) {
            return -2;
        }
        Object[] places = new Object[13];
        for (int s = 0; s < 8; s++) {
            places[s] = w.light[s] > 0 ? Integer.valueOf(w.light[s]) : null;
        }
        for (int f = 0; f < w.n; f++) {
            places[8 + f] = of(w.kind[f], w.more[f]);
        }
        try {
            Object there = places[i];
            if (there == null) {
                return -11;
            }
            if (kind == 6) {
                return (Integer) there;
            }
            KINDS[kind].cast(there);
            return i - 8;
        } catch (ArrayIndexOutOfBoundsException e) {
            return -12;
        } catch (ClassCastException e) {
            return -13;
        }
    }
}
