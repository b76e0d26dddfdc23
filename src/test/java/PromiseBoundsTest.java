import java.io.IOException;

/**
 * Each sentence of the promises, quoted, with what must hold on either side of the bound that it names;
 * BoundsTest has those of the Terms. What is due is worked out by hand.
 */
public final class PromiseBoundsTest {
    private static final String STILL = Worlds.STILL;
    /** From 0 on RED (60) behind SECONDS 8 .. 39, 280 warm behind the last. */
    private static final String SEVEN = "warms 7;cools 0;looks 0;";
    private static final String ONE = "warms 1;cools 0;looks 0;";
    private static final String COOL_TEN = "warms 0;cools 10;looks 0;";
    /** Those of MORE 1 look, and each look makes one 2 warmer. */
    private static final String LOOKERS = "warms glances*2;cools 0;looks more=1;";
    private static final long NO = -4611686018427387904L, FORTY = (1L << 40) - 1;

    public static void main(String[] args) throws IOException {
        Doc.read();
        newObject();
        count();
        feed();
        text();
        force();
        asks();
        face();
        warm();
        sit();
        lamp();
        told();
        cause();
        uncause();
        causeTold();
        at();
        red();
        row();
        pass();
        dies();
        line();
        stops();
        best();
        latest();
        adds();
        turn();
        stares();
        where();
        change();
        shade();
        sets();
        needs();
        asked();
        guilty();
        judge();
        whose();
        began();
        through();
        kinds();
        laws();
        film();
        drawn();
        odds();
        image();
        back();
        sheet();
        cell();
        copy();
        facesBy();
        taken();
        Doc.allQuoted(1, 49);
        Due.end();
    }

    // ---- the law

    private static void newObject() {
        Doc.promise(1, "No FACES, no CAUSES, dark SEATS.");
        Run x = new Run().is(0, "count 0", "count 1", "row 0 0", "row 40 1", "asked 400 40", "drawn 0 400");
        x.is(-5, "told 0 0", "causeTold 0 0").is(-3, "uncause", "back");
        for (int i = 0; i < 13; i++) {
            x.is(-11, "taken " + i + " 6", "taken " + i + " 0");
        }
    }

    private static void count() {
        Doc.promise(2, "0 FACES, 1 CAUSES, 2 TEXTS, 3 THE LAW, 4 bytes of THE TAPE.");
        new Run().is(0, "count 0", "count 1", "count 3", "count 4").is(1, "count 2");
        Worlds.full().is(5, "count 0", "count 3").is(8, "count 1").is(6, "count 2").is(160, "count 4");
        Doc.promise(2, "BAD.");
        new Run().is(-2, "count -1", "count 5", "count MIN", "count MAX");
    }

    private static void feed() {
        Doc.promise(3, "The first n (1 .. 5) of five bytes (0 .. 255 each) come behind THE TAPE's, one by one: how "
            + "many it has.");
        Run x = new Run().is(1, "feed 1 0 255 0 255 0").is(6, "feed 5 255 0 255 0 255").is(8, "feed 2 0 0 0 0 0");
        x.is(11, "feed 3 255 255 255 255 255").is(15, "feed 4 0 0 0 0 0").is(-100, "text").is(0, "count 4");
        String text = "warms 8;cools 9;looks 1;";
        int from = 0;
        for (int n : new int[] {1, 2, 3, 4, 5, 5, 4}) {
            StringBuilder call = new StringBuilder("feed " + n);
            for (int i = 0; i < 5; i++) {
                // an @ of those that do not come would be a FAULT
                call.append(' ').append((int) (i < n ? text.charAt(from + i) : '@'));
            }
            from += n;
            x.is(from, call.toString());
        }
        x.is(1, "text").go("force 1").is(8, "asks 0 0 0 0 0").is(9, "asks 1 0 0 0 0");
        Doc.promise(3, "BAD: n, any of the five;");
        x.is(-2, "feed 0 1 1 1 1 1", "feed 6 1 1 1 1 1", "feed MIN 1 1 1 1 1", "feed MAX 1 1 1 1 1");
        x.is(-2, "feed 1 -1 1 1 1 1", "feed 1 1 -1 1 1 1", "feed 1 1 1 -1 1 1", "feed 1 1 1 1 -1 1", "feed 1 1 1 1 1 -1");
        x.is(-2, "feed 1 256 1 1 1 1", "feed 1 1 256 1 1 1", "feed 1 1 1 256 1 1", "feed 1 1 1 1 256 1",
            "feed 1 1 1 1 1 256");
        x.is(0, "count 4");
        Doc.promise(3, "FULL: they have not all room (none comes).");
        for (int n = 1; n <= 5; n++) {
            Run y = new Run().tape("x".repeat(161 - n)).is(-4, "feed " + n + " 1 1 1 1 1").is(161 - n, "count 4");
            y.is(-2, "feed " + n + " 1 1 1 1 256");
            if (n > 1) {
                y.is(160, "feed " + (n - 1) + " 1 1 1 1 1");
            }
            y.is(160, "count 4").is(-4, "feed 1 1 1 1 1 1").is(-100, "text").is(5, "feed 5 1 1 1 1 1");
        }
    }

    private static void text() {
        Doc.promise(4, "THE TAPE, which is empty then (by a FAULT, too), is a TEXT: its number; -100 less the place "
            + "of its FAULT.");
        Run x = new Run().is(-100, "text").tape(STILL).is(1, "text").is(0, "count 4").is(2, "count 2").is(0, "count 3");
        x.tape("warms ;").is(-106, "text").is(0, "count 4").is(2, "count 2").tape(STILL).is(2, "text");
        x.tape("@").is(-100, "text").is(-100, "text").tape(" ".repeat(160)).is(-260, "text");
        Doc.promise(4, "FULL (ahead of the FAULT; then THE TAPE stays).");
        Run y = Worlds.full().is(-4, "text").is(160, "count 4");
        y.is(-4, "text", "feed 1 1 1 1 1 1").is(160, "count 4").is(6, "count 2");
        Run z = new Run();
        for (int t = 1; t < 6; t++) {
            z.tape(STILL).is(t, "text");
        }
        z.is(-4, "text").is(0, "count 4").tape(STILL).is(-4, "text").is(STILL.length(), "count 4");
    }

    private static void force() {
        Doc.promise(5, "A TEXT is THE LAW: which was.");
        Run x = Worlds.full().is(5, "force 0").is(0, "force 0", "force 5").is(5, "force 4").is(4, "force 5");
        x.is(5, "count 3", "asks 0 0 0 0 0");
        Doc.promise(5, "BAD.");
        x.is(-2, "force -1", "force 6", "force MIN", "force MAX").is(5, "count 3");
        new Run().is(-2, "force 1").is(0, "force 0");
    }

    private static void asks() {
        Doc.promise(6, "What part 0 warms, 1 cools, 2 looks (1, 0) says (warmth 0 .. 400; looksLight: 10 times "
            + "glances, and light, 0 .. 49; secondSeen: 10 times second, and seen, 0 .. 401; more 0 .. 9).");
        Run x = Run.by("warms light+more;cools glances*10+seen;looks warmth=400 and second=40;");
        x.is(0, "asks 0 0 0 0 0", "asks 0 0 10 0 0", "asks 0 400 40 401 0").is(18, "asks 0 0 9 0 9", "asks 0 0 49 0 9");
        x.is(41, "asks 1 0 49 401 0").is(40, "asks 1 0 40 400 0").is(1, "asks 1 0 9 1 0", "asks 1 0 0 391 0");
        x.is(1, "asks 2 400 0 400 0", "asks 2 400 49 401 9").is(0, "asks 2 400 0 391 0", "asks 2 399 0 400 0");
        Doc.promise(6, "BAD.");
        x.is(-2, "asks -1 0 0 0 0", "asks 3 0 0 0 0", "asks 0 -1 0 0 0", "asks 0 401 0 0 0", "asks 0 0 -1 0 0");
        x.is(-2, "asks 0 0 50 0 0", "asks 0 0 0 -1 0", "asks 0 0 0 402 0", "asks 0 0 0 0 -1", "asks 0 0 0 0 10");
        x.is(-2, "asks 0 0 0 2 0", "asks 0 0 0 9 0", "asks 0 0 0 392 0", "asks 0 0 0 411 0", "asks 0 0 0 MAX 0");
    }

    // ---- faces, seats

    private static void face() {
        Doc.promise(7, "A FACE (kindMore: 10 times KIND, and MORE; WARMTH; its SEAT): its number.");
        Run x = new Run().is(0, "face 0 0 0").is(1, "face 59 400 7").is(2, "face 40 1 6").is(3, "face 9 399 1");
        x.is(0, "told 0 2", "told 0 3", "told 0 0", "told 0 1", "told 3 2", "told 2 3").is(5, "told 1 2");
        x.is(9, "told 1 3", "told 3 3").is(4, "told 2 2").is(400, "told 1 0").is(399, "told 3 0").is(7, "told 1 1");
        Doc.promise(7, "BAD; FULL; STATE: another one sits there.");
        x.is(-2, "face -1 0 2", "face 60 0 2", "face 0 -1 2", "face 0 401 2", "face 0 0 -1", "face 0 0 8", "face 0 401 0");
        x.is(-3, "face 0 0 0", "face 0 0 7", "face 0 0 6", "face 0 0 1").is(4, "count 0", "face 0 0 2");
        x.is(-4, "face 0 0 3", "face 0 0 0").is(-2, "face 60 0 3", "face 0 401 0", "face 0 0 8").is(5, "count 0");
        // where one has sat another may
        Run y = new Run().go("face 0 0 0").is(0, "sit 0 7").is(-3, "face 0 0 7").is(1, "face 0 0 0");
        y.is(-3, "face 0 0 0").is(2, "count 0");
    }

    private static void warm() {
        Doc.promise(8, "WARMTH of one becomes v: what it was.");
        Run x = new Run().go("face 0 7 0", "face 0 8 1").is(7, "warm 0 400").is(400, "warm 0 0").is(0, "warm 0 0")
            .is(8, "told 1 0");
        Doc.promise(8, "-5: no such FACE; -7: v.");
        x.is(-7, "warm 0 -1", "warm 0 401").is(-5, "warm 2 0", "warm -1 0", "warm 2 401").is(0, "told 0 0")
            .is(8, "warm 1 0");
    }

    private static void sit() {
        Doc.promise(9, "One truly sits in a SEAT; who sits there goes where one sat: where one sat.");
        Run x = new Run().go("face 0 0 0", "face 0 0 7", "lamp 7 9", "lamp 3 5").is(0, "sit 0 7").is(7, "told 0 1")
            .is(0, "told 1 1");
        x.is(9, "told 0 4").is(0, "told 1 4").is(7, "sit 0 7").is(7, "told 0 1").is(0, "told 1 1").is(7, "sit 0 3");
        x.is(0, "sit 1 7").is(5, "told 0 4").is(9, "told 1 4").is(3, "sit 0 0").is(7, "sit 1 0").is(7, "told 0 1");
        Doc.promise(9, "-5: no such FACE; -7: no such SEAT.");
        x.is(-7, "sit 0 -1", "sit 0 8").is(-5, "sit 2 0", "sit -1 0", "sit 2 8").is(7, "told 0 1").is(0, "told 1 1");
    }

    private static void lamp() {
        Doc.promise(10, "A SEAT is so LIGHT: how LIGHT it was.");
        Run x = new Run().is(0, "lamp 0 9", "lamp 7 1").is(9, "lamp 0 0").is(1, "lamp 7 9").is(0, "lamp 0 0")
            .is(9, "lamp 7 9");
        Doc.promise(10, "-5: no such SEAT; -7: v.");
        x.is(-7, "lamp 7 -1", "lamp 7 10").is(-5, "lamp -1 0", "lamp 8 0", "lamp 8 10").is(9, "lamp 7 0").is(0, "lamp 0 0");
    }

    private static void told() {
        Doc.promise(11, "Of one what 0 WARMTH, 1 SEAT, 2 KIND, 3 MORE, 4 how LIGHT it is there, 5 from which WARMTH "
            + "on one is RED.");
        Run x = new Run().go("face 49 400 7", "face 0 0 0", "lamp 7 9");
        x.is(400, "told 0 0").is(7, "told 0 1").is(4, "told 0 2").is(9, "told 0 3", "told 0 4").is(154, "told 0 5");
        x.is(0, "told 1 0", "told 1 1", "told 1 2", "told 1 3", "told 1 4").is(60, "told 1 5");
        Doc.promise(11, "-5: no such FACE; -7: what.");
        x.is(-7, "told 0 -1", "told 0 6").is(-5, "told 2 0", "told -1 0", "told 2 6");
    }

    // ---- causes

    private static void cause() {
        Doc.promise(12, "A CAUSE (SECOND, FACE, MUCH): its number.");
        Run x = Run.by(STILL).go("face 0 0 0", "face 0 0 1").is(0, "cause 0 1 400").is(1, "cause 39 0 0")
            .is(2, "cause 39 0 400");
        x.is(0, "at 0 1 0", "at 39 0 0").is(400, "at 1 1 0", "at 40 0 0");
        Doc.promise(12, "-5: no such FACE; -7: SECOND, MUCH; FULL.");
        x.is(-5, "cause 0 2 0", "cause 0 -1 0", "cause 40 2 401").is(-7, "cause -1 0 0", "cause 40 0 0", "cause 0 0 -1");
        x.is(-7, "cause 0 0 401").is(3, "count 1");
        for (int k = 3; k < 8; k++) {
            x.is(k, "cause 1 0 1");
        }
        x.is(-4, "cause 0 0 0").is(-7, "cause 40 0 0", "cause 0 0 401").is(-5, "cause 0 2 0").is(8, "count 1");
    }

    private static void uncause() {
        Doc.promise(13, "The last CAUSE is none any more: how many there are.");
        Run x = Run.by(STILL).go("face 0 0 0", "cause 0 0 1", "cause 0 0 20").is(21, "at 1 0 0").is(1, "uncause");
        x.is(1, "at 1 0 0", "count 1").is(-5, "causeTold 1 2").is(0, "uncause").is(0, "at 1 0 0", "count 1");
        Doc.promise(13, "STATE: there is none.");
        x.is(-3, "uncause", "uncause").is(0, "count 1", "cause 0 0 5").is(5, "causeTold 0 2");
    }

    private static void causeTold() {
        Doc.promise(14, "Of a CAUSE what 0 SECOND, 1 FACE, 2 MUCH.");
        Run x = new Run().is(-5, "causeTold 0 0").go("face 0 0 0", "face 0 0 1", "cause 39 1 400", "cause 0 0 0");
        x.is(39, "causeTold 0 0").is(1, "causeTold 0 1").is(400, "causeTold 0 2");
        x.is(0, "causeTold 1 0", "causeTold 1 1", "causeTold 1 2");
        Doc.promise(14, "-5: no such CAUSE; -7: what.");
        x.is(-5, "causeTold 2 0", "causeTold -1 0", "causeTold 2 3").is(-7, "causeTold 1 3", "causeTold 1 -1");
        Worlds.full().is(35, "causeTold 7 0").is(2, "causeTold 7 1").is(10, "causeTold 7 2").is(-5, "causeTold 8 0");
    }

    // ---- seconds

    private static void at() {
        Doc.promise(15, "Behind n (0 .. 40) SECONDS of one what 0 WARMTH, 1 whether it is RED (1, 0), 2 how many "
            + "LOOKED at it in the last of them (0: there is none).");
        Run x = Run.by("warms glances;cools 0;looks second<1 or second=39;").go("face 0 59 0", "face 0 58 1");
        x.is(59, "at 0 0 0").is(60, "at 1 0 0", "at 39 0 0").is(61, "at 40 0 0").is(0, "at 0 0 1", "at 1 1 1", "at 39 1 1");
        x.is(1, "at 1 0 1", "at 40 0 1", "at 40 1 1").is(0, "at 0 0 2", "at 2 0 2", "at 39 0 2")
            .is(1, "at 1 0 2", "at 40 1 2");
        Doc.promise(15, "-5: n, no such FACE; -7: what.");
        x.is(-5, "at -1 0 0", "at 41 0 0", "at 0 2 0", "at 0 -1 0", "at 41 0 3", "at 0 2 3")
            .is(-7, "at 0 0 3", "at 40 1 -1");
    }

    private static void red() {
        Doc.promise(16, "Of 40 SECONDS of one what 0 the most WARMTH (at first, too), 1 behind how many it is RED, "
            + "2 the first, 3 the last such SECOND (-1: none), 4 FELT.");
        Run x = Run.by(COOL_TEN).go("face 0 400 0").is(400, "red 0 0").is(34, "red 0 1").is(0, "red 0 2").is(33, "red 0 3");
        x.is(7800, "red 0 4").go("warm 0 70").is(70, "red 0 0").is(1, "red 0 1").is(0, "red 0 2", "red 0 3")
            .is(210, "red 0 4");
        x.go("warm 0 69").is(69, "red 0 0").is(0, "red 0 1").is(-1, "red 0 2", "red 0 3");
        x.go("warm 0 0", "cause 39 0 70").is(60, "red 0 0", "red 0 4").is(1, "red 0 1").is(39, "red 0 2", "red 0 3");
        Run y = Run.by(SEVEN).go("face 0 0 0").is(280, "red 0 0").is(32, "red 0 1").is(8, "red 0 2").is(39, "red 0 3");
        y.is(5740, "red 0 4").go("warm 0 400").is(40, "red 0 1").is(0, "red 0 2").is(16000, "red 0 4");
        Run.by(STILL).go("face 0 0 0").is(0, "red 0 0", "red 0 1", "red 0 4").is(-1, "red 0 2", "red 0 3");
        Doc.promise(16, "-5: no such FACE; -7: what.");
        x.is(-7, "red 0 -1", "red 0 5").is(-5, "red 1 0", "red -1 0", "red 1 5");
    }

    private static void row() {
        Doc.promise(17, "Behind n (0 .. 40) SECONDS what 0 who is RED (bits), 1 WARMTH of all together, 2 whose "
            + "WARMTH is 400 (bits).");
        Run x = Run.by(STILL).is(0, "row 0 0", "row 0 1", "row 40 2").go("face 0 400 0", "face 0 400 1", "face 0 400 2");
        x.go("face 0 400 3", "face 0 400 4").is(31, "row 0 0", "row 40 0", "row 0 2", "row 40 2")
            .is(2000, "row 0 1", "row 40 1");
        x.go("warm 0 60", "warm 2 59", "warm 4 399").is(27, "row 0 0", "row 40 0").is(10, "row 0 2", "row 40 2");
        x.is(1318, "row 0 1", "row 40 1");
        Run y = Run.by(ONE).go("face 0 20 0", "face 0 360 1").is(0, "row 39 2").is(2, "row 40 2", "row 0 0", "row 39 0");
        y.is(3, "row 40 0").is(382, "row 1 1").is(460, "row 40 1");
        Doc.promise(17, "-5: n; -7: what.");
        x.is(-5, "row -1 0", "row 41 0", "row 41 3").is(-7, "row 0 -1", "row 40 3");
    }

    private static void pass() {
        Doc.promise(18, "n (0 .. 40) SECONDS truly pass: WARMTH is as behind them (CAUSES stay): how many are RED "
            + "then.");
        Run x = Run.by(ONE).is(0, "pass 0", "pass 40").go("face 0 0 0", "face 0 60 1").is(1, "pass 0").is(0, "told 0 0");
        x.is(1, "pass 40").is(40, "told 0 0").is(100, "told 1 0").is(1, "pass 19").is(2, "pass 1").is(60, "told 0 0");
        x.go("cause 1 0 9", "cause 39 1 400").is(2, "pass 2").is(71, "told 0 0").is(2, "count 1", "pass 2")
            .is(82, "told 0 0");
        x.is(2, "pass 39").is(163, "told 1 0").is(2, "pass 40").is(400, "told 1 0");
        // the next SECONDS begin with SECOND 0, in which nobody has LOOKED before
        Run y = Run.by("warms glances;cools 0;looks second=0 or glances;").go("face 0 0 0", "face 0 0 1").is(0, "pass 1");
        y.is(1, "told 0 0", "at 0 0 0", "at 1 0 2").is(0, "at 0 0 2").is(2, "at 1 0 0");
        Doc.promise(18, "BAD.");
        x.is(-2, "pass -1", "pass 41", "pass MIN", "pass MAX").is(400, "told 1 0");
    }

    private static void dies() {
        Doc.promise(19, "2, if WARMTH of one ever is 400 (at first, too); else 1, if it is RED behind SECOND 39, "
            + "else 0.");
        Run x = Run.by(ONE).go("face 0 19 0").is(0, "dies 0").go("warm 0 20").is(1, "dies 0").go("warm 0 359")
            .is(1, "dies 0");
        x.go("warm 0 360").is(2, "dies 0").go("warm 0 400").is(2, "dies 0");
        Run y = Run.by(COOL_TEN).go("face 0 399 0").is(0, "dies 0").go("warm 0 400").is(2, "dies 0").go("warm 0 0");
        y.go("cause 5 0 400").is(0, "dies 0").go("cause 5 0 10").is(2, "dies 0").go("uncause", "uncause", "cause 39 0 69");
        y.is(0, "dies 0").go("cause 39 0 1").is(1, "dies 0").go("cause 39 0 339").is(1, "dies 0").go("cause 39 0 1")
            .is(2, "dies 0");
        Doc.promise(19, "-5: no such FACE.");
        x.is(-5, "dies 1", "dies -1");
    }

    private static void line() {
        Doc.promise(20, "Of 0, 10, .. 390 the greatest by which, were it one's WARMTH at first, that would not be "
            + "2; -1: there is none.");
        Run.by(STILL).go("face 0 400 0").is(390, "line 0").is(400, "told 0 0");
        Run.by(ONE).go("face 0 0 0").is(350, "line 0").go("cause 9 0 9").is(350, "line 0").go("cause 9 0 1")
            .is(340, "line 0");
        Run.by("warms 10;cools 0;looks 0;").go("face 0 0 0").is(-1, "line 0");
        Run.by("warms 10*(0<second);cools 0;looks 0;").go("face 0 400 0").is(0, "line 0").go("cause 39 0 9").is(0, "line 0")
            .go("cause 39 0 1").is(-1, "line 0");
        Doc.promise(20, "-5: no such FACE.");
        Run.by(STILL).is(-5, "line 0").go("face 0 0 0").is(-5, "line 1", "line -1");
    }

    // ---- what stops it

    private static void stops() {
        Doc.promise(21, "What red() would be, did one STOP it so (stopSecond: as digits, 0 .. 319).");
        Run x = Run.by(SEVEN).go("face 1 0 0", "face 0 0 1");
        x.is(280, "stops 0 0 0", "stops 0 19 0").is(245, "stops 0 100 0").is(27, "stops 0 100 1").is(13, "stops 0 100 2");
        x.is(39, "stops 0 100 3").is(7 * 630, "stops 0 100 4").is(205, "stops 0 119 0");
        x.is(30 + 40 * 3, "stops 0 200 0").is(19 * 7 + 30 + 21 * 3, "stops 0 219 0")
            .is(260, "stops 0 300 0", "stops 0 319 0");
        Run.by(STILL).go("face 0 0 0").is(0, "stops 0 0 0", "stops 0 0 1", "stops 0 0 4")
            .is(-1, "stops 0 0 2", "stops 0 319 3");
        Doc.promise(21, "-5: no such FACE; -7: the others.");
        x.is(-7, "stops 0 -1 0", "stops 0 320 0", "stops 0 20 0", "stops 0 99 0", "stops 0 219 5", "stops 0 0 -1");
        x.is(-5, "stops 2 0 0", "stops -1 0 0", "stops 2 320 5");
    }

    private static void best() {
        Doc.promise(22, "Of all ways in which one can STOP it that by which it would be RED behind fewest SECONDS, "
            + "if fewer than else, of like ones the first (what 0, as digits; -1: none), behind how many (1; as "
            + "else, if none).");
        Run x = Run.by(STILL).go("face 9 59 0").is(-1, "best 0 0").is(0, "best 0 1").go("warm 0 60").is(100, "best 0 0");
        x.is(0, "best 0 1").go("warm 0 135").is(-1, "best 0 0").is(40, "best 0 1").go("warm 0 134").is(100, "best 0 0");
        x.is(4, "best 0 1");
        // a pencil at 20 would help, but at is 19 at most; and one SECOND is more than none
        x.go("warm 0 0", "cause 24 0 60").is(-1, "best 0 0").is(16, "best 0 1").go("uncause", "cause 23 0 60");
        x.is(119, "best 0 0").is(0, "best 0 1").go("uncause", "warm 0 10", "cause 39 0 55").is(1, "red 0 1").is(100, "best 0 0").is(0, "best 0 1");
        // the first of all ways, and the last: WARMTH is 59, from SECOND 19 on 65, but for a wish of all ten SECONDS
        Run.by("warms glances*10;cools 0;looks 1;").go("face 0 0 0", "face 0 0 1").is(0, "best 0 0").is(25, "best 0 1");
        Run.by("warms 59-warmth+6*(18<second and second<29);cools 0;looks 0;").go("face 9 59 0").is(21, "red 0 1")
            .is(319, "best 0 0").is(0, "best 0 1", "stops 0 319 1").is(12, "stops 0 318 1");
        Doc.promise(22, "-5: no such FACE; -7: what.");
        x.is(-7, "best 0 -1", "best 0 2").is(-5, "best 1 0", "best -1 1", "best 1 2");
    }

    private static void latest() {
        Doc.promise(23, "The greatest at (0 .. 19) by which, doing which (0 .. 3) then, one would not be RED behind "
            + "SECOND 39; -1: there is none.");
        Run x = Run.by(STILL).go("face 0 30 0").is(19, "latest 0 0", "latest 0 1", "latest 0 3").is(-1, "latest 0 2");
        x.go("warm 0 29").is(19, "latest 0 2").go("warm 0 134").is(19, "latest 0 1")
            .is(-1, "latest 0 0", "latest 0 2", "latest 0 3");
        x.go("warm 0 135").is(-1, "latest 0 1");
        Run y = Run.by("warms glances*60;cools 0;looks second=0;").go("face 0 0 0", "face 0 0 1").is(0, "latest 0 0");
        y.is(-1, "latest 0 3");
        Run.by("warms 5*(second=12);cools 0;looks 0;").go("face 3 55 0").is(12, "latest 0 3").is(19, "latest 0 1");
        Doc.promise(23, "-5: no such FACE; -7: which.");
        x.is(-7, "latest 0 -1", "latest 0 4").is(-5, "latest 1 0", "latest -1 0", "latest 1 4");
    }

    // ---- looks

    private static void adds() {
        Doc.promise(24, "FELT of one, less what it would be, did another one never LOOK at it.");
        Run x = Run.by(LOOKERS).go("face 0 0 0", "face 1 0 1", "face 1 0 2").is(1640, "adds 0 1", "adds 0 2", "adds 1 2");
        x.is(0, "adds 1 0", "adds 2 0");
        Run.by("warms 0;cools glances;looks more=1;").go("face 0 400 0", "face 1 0 1").is(-820, "adds 0 1")
            .is(0, "adds 1 0");
        Doc.promise(24, "-100000: no such two (alike, too).");
        x.is(-100000, "adds 0 0", "adds 2 2", "adds 3 0", "adds 0 3", "adds -1 0", "adds 0 -1", "adds 3 3");
        Run.by(LOOKERS).is(-100000, "adds 0 1").go("face 0 0 0").is(-100000, "adds 0 1", "adds 0 0");
    }

    private static void turn() {
        Doc.promise(25, "The other one of whom that is most, of like ones the first (what 0; -1: there is none), "
            + "that (1; 0).");
        Run x = Run.by(LOOKERS).go("face 1 0 0").is(-1, "turn 0 0").is(0, "turn 0 1").go("face 0 0 1").is(1, "turn 0 0");
        x.is(0, "turn 0 1", "turn 1 0").is(1640, "turn 1 1").go("face 1 0 2", "face 1 0 3", "face 0 0 4").is(2, "turn 0 0");
        x.is(0, "turn 4 0", "turn 3 0").is(1640, "turn 4 1");
        // most may be below 0
        Run.by("warms 0;cools glances;looks more=1;").go("face 0 400 0", "face 1 0 1").is(1, "turn 0 0").is(-820, "turn 0 1")
            .go("face 0 0 2").is(2, "turn 0 0").is(0, "turn 0 1");
        Doc.promise(25, "-100000: no such FACE, what.");
        x.is(-100000, "turn 5 0", "turn -1 0", "turn 0 -1", "turn 0 2", "turn 5 2");
    }

    private static void stares() {
        Doc.promise(26, "FELT of all others together, less what it would be, did one never LOOK at anybody.");
        Run x = Run.by(LOOKERS).go("face 1 0 0").is(0, "stares 0")
            .go("face 0 0 1", "face 0 0 2", "face 1 0 3", "face 0 0 4");
        x.is(4 * 1640, "stares 0", "stares 3").is(0, "stares 1", "stares 4");
        Doc.promise(26, "-100000: no such FACE.");
        x.is(-100000, "stares 5", "stares -1");
        new Run().is(-100000, "stares 0");
    }

    // ---- seats

    private static void where() {
        Doc.promise(27, "The SEAT by which, did one sit there (as of sit()), it would be RED behind fewest SECONDS, "
            + "of like ones the first (what 0), behind how many (1).");
        Run x = Run.by(STILL).go("face 0 40 3", "face 0 0 7").is(0, "where 0 0", "where 0 1");
        for (int s = 0; s < 8; s++) {
            x.go("lamp " + s + " 5");
        }
        x.is(0, "where 0 0").is(40, "where 0 1").go("lamp 7 4").is(7, "where 0 0").is(0, "where 0 1").is(3, "told 0 1");
        x.is(7, "told 1 1").go("lamp 7 5", "lamp 3 4").is(3, "where 0 0").is(0, "where 0 1").go("lamp 7 0")
            .is(3, "where 0 0");
        x.go("lamp 0 0").is(0, "where 0 0");
        Doc.promise(27, "-5: no such FACE; -7: what.");
        x.is(-7, "where 0 -1", "where 0 2").is(-5, "where 2 0", "where -1 0", "where 2 2");
    }

    private static void change() {
        Doc.promise(28, "Two by which, did they change SEATS, all would be RED behind fewest SECONDS, together, if "
            + "fewer than now, of like ones the first: 10 times the lesser, and the other (what 0; -1: none), how "
            + "many then (1; as now, if none).");
        Run x = Run.by(STILL).is(-1, "change 0").is(0, "change 1").go("face 0 55 0").is(-1, "change 0").is(0, "change 1");
        x.go("lamp 0 2").is(-1, "change 0").is(40, "change 1").go("face 0 30 1").is(1, "change 0").is(0, "change 1");
        x.go("face 0 30 2", "face 0 30 3", "face 0 30 4").is(1, "change 0").go("lamp 1 2", "lamp 2 2", "lamp 3 2");
        x.is(4, "change 0").is(0, "change 1").go("lamp 4 2").is(-1, "change 0").is(40, "change 1").is(0, "told 0 1");
        Run y = Run.by(STILL).go("face 0 0 0", "face 0 0 1", "face 0 0 2", "face 0 30 3", "face 0 55 4", "lamp 4 2");
        y.go("lamp 0 2", "lamp 1 2", "lamp 2 2").is(34, "change 0").is(0, "change 1");
        // fewer is not fewest: 0 with 1 would help a little, 0 with 2 more
        Run z = Run.by("warms 0;cools light;looks 0;").go("face 0 61 0", "face 0 0 1", "face 0 0 2", "lamp 1 1", "lamp 2 2");
        z.is(40, "red 0 1").is(2, "change 0").is(4, "change 1");
        Doc.promise(28, "BAD.");
        x.is(-2, "change -1", "change 2");
    }

    private static void shade() {
        Doc.promise(29, "How LIGHT (0 .. 9) a SEAT should be so that all would be RED behind fewest SECONDS, "
            + "together, of like ones the least (what 0), how many then (1).");
        Run x = Run.by(STILL).is(0, "shade 0 0", "shade 7 1").go("face 0 59 0", "face 0 60 7", "lamp 0 9")
            .is(0, "shade 0 0");
        x.is(40, "shade 0 1").is(0, "shade 7 0").is(80, "shade 7 1").is(9, "lamp 0 9");
        Run y = Run.by("warms 0;cools (light=9)*99;looks 0;").go("face 0 61 7").is(9, "shade 7 0")
            .is(0, "shade 7 1", "told 0 4");
        y.is(0, "shade 0 0").is(40, "shade 0 1");
        Doc.promise(29, "-5: no such SEAT; -7: what.");
        x.is(-7, "shade 0 -1", "shade 7 2").is(-5, "shade -1 0", "shade 8 0", "shade 8 2");
    }

    // ---- whom one sets off, who it is

    private static void sets() {
        Doc.promise(30, "Others (bits) who, by ONE CAUSE MORE of one in SECOND 0, so MUCH, would be RED behind any "
            + "SECOND, and else aren't behind any.");
        // a look asks nothing of the WARMTH of who would look: whom one red one sets off is nobody
        Run x = Run.by("warms glances*2;cools 1;looks seen;").go("face 0 59 0").is(0, "sets 0 0", "sets 0 400");
        x.go("face 0 59 1", "face 9 60 2", "face 9 400 3").is(0, "sets 0 400", "sets 1 0", "sets 2 400", "sets 3 400");
        Doc.promise(30, "-5: no such FACE; -7: much.");
        x.is(-7, "sets 0 -1", "sets 0 401").is(-5, "sets 4 0", "sets -1 0", "sets 4 401");
    }

    private static void needs() {
        Doc.promise(31, "The least MUCH of 0, 10, .. 400 of ONE CAUSE MORE of one in SECOND 0 by which it would be "
            + "RED behind any SECOND; -1: there is none.");
        Run x = Run.by(STILL).go("face 0 0 0").is(60, "needs 0").go("warm 0 1").is(60, "needs 0").go("warm 0 10")
            .is(50, "needs 0");
        x.go("warm 0 59").is(10, "needs 0").go("warm 0 60").is(0, "needs 0");
        // RED at first alone is not RED behind a SECOND; 270 is the most that one needs, so that there never is none
        Run y = Run.by("warms 0;cools 99;looks 0;").go("face 0 60 0").is(100, "needs 0").go("warm 0 159").is(0, "needs 0");
        y.go("warm 0 158").is(10, "needs 0").go("face 49 0 1").is(270, "needs 1");
        Run.by("warms 0;cools (second=0)*99;looks 0;").go("face 0 0 0").is(160, "needs 0");
        Doc.promise(31, "-5: no such FACE.");
        x.is(-5, "needs 1", "needs -1");
    }

    private static void asked() {
        Doc.promise(32, "ASKED by so MUCH who would be RED behind n (0 .. 40) SECONDS (bits).");
        Run x = Run.by(ONE).is(0, "asked 400 40")
            .go("face 0 20 0", "face 0 19 1", "face 0 60 2", "face 0 0 3", "face 0 0 4");
        x.is(4, "asked 0 0", "asked 400 0", "asked 0 39").is(5, "asked 0 40").is(7, "asked 1 40").is(31, "asked 400 1");
        x.is(5, "asked 39 1").is(7, "asked 40 1").is(31, "asked 59 1").is(7, "asked 58 1");
        Doc.promise(32, "BAD.");
        x.is(-2, "asked -1 0", "asked 401 0", "asked 0 -1", "asked 0 41");
    }

    private static void guilty() {
        Doc.promise(33, "Just one of all did it, each as likely; all are ASKED by so MUCH, that one by so much MORE "
            + "(400 at most together; muchMore: 1000 times MUCH, and MORE, 0 .. 400 each): how likely it is one, if "
            + "one is RED behind n (0 .. 40) SECONDS: part 0 above, 1 below the line, in lowest terms.");
        Run x = Run.by(STILL).go("face 0 0 0").is(1, "guilty 0 60000 1 0", "guilty 0 60000 1 1");
        x.go("face 0 0 1", "face 0 0 2", "face 0 0 3", "face 0 0 4").is(1, "guilty 0 60000 1 0", "guilty 4 400400 40 0");
        x.is(5, "guilty 0 60000 1 1", "guilty 4 400400 40 1", "guilty 4 60400 1 1");
        x.is(1, "guilty 0 59001 1 0", "guilty 0 59001 1 1", "guilty 0 60 40 1", "guilty 0 400 1 1");
        x.go("warm 0 60").is(1, "guilty 0 0 0 0").is(5, "guilty 0 0 0 1", "guilty 0 0 40 1");
        // together they are 400: 301, 202, 103, 4
        Run y = Run.by("warms 0;cools 99;looks 0;").go("face 0 0 0", "face 0 0 1")
            .is(2, "guilty 0 400400 3 1", "guilty 0 400000 3 1");
        y.is(1, "guilty 0 200200 3 0", "guilty 0 200200 3 1", "guilty 0 399400 3 0")
            .is(NO, "guilty 0 400400 4 0", "guilty 0 300300 4 0");
        // if it is he, 155 and 56, one is not RED, and else, 100, one is
        Run.by("warms 0;cools (150<warmth)*99;looks 0;").go("face 0 0 0", "face 0 0 1", "face 0 0 2")
            .is(0, "guilty 0 100055 3 0")
            .is(1, "guilty 0 100055 3 1");
        Doc.promise(33, "NO: none such; one can't be RED then.");
        x.go("warm 0 0").is(NO, "guilty 0 59000 1 0", "guilty 0 59 40 1", "guilty 0 400400 0 0", "guilty 0 30029 1 0");
        x.is(NO, "guilty 5 60000 1 0", "guilty -1 60000 1 0", "guilty 0 -1 1 0", "guilty 0 400401 1 0",
            "guilty 0 401000 1 0");
        x.is(NO, "guilty 0 60401 1 0", "guilty 0 60000 -1 0", "guilty 0 60000 41 0", "guilty 0 60000 1 -1",
            "guilty 0 60000 1 2");
        new Run().is(NO, "guilty 0 60000 1 0");
    }

    // ---- told films

    /** BAD: SHEET; -11; BAD: it tells more than 8: ahead of all else that may be refused. */
    private static void filmRefusals(Run x, String call, String others) {
        x.go("sheet 2 2 8", "sheet 3 -1 0").sheet(1, 0, 0, 0, 0, 0, 0, 0, 0, 0, 0);
        x.is(-2, call + " 4" + others, call + " -1" + others, call + " MAX" + others, call + " 1" + others);
        x.is(-11, call + " 3" + others).go("sheet 1 0 8");
    }

    private static void judge() {
        Doc.promise(34, "A SHEET tells WARMTH behind 5, 10, .. SECONDS: the first place (from 0) at which it is "
            + "otherwise of one; -1: none.");
        Run x = Run.by(SEVEN).go("face 0 0 0", "sheet 0 0 0").is(-1, "judge 0 0").sheet(0, 2, 35).is(-1, "judge 0 0");
        x.sheet(0, 2, 34).is(0, "judge 0 0").sheet(0, 2, 35, 70, 105, 140, 175, 210, 245, 280).is(-1, "judge 0 0");
        x.go("cell 0 7 281").is(7, "judge 0 0").go("cell 0 6 244").is(6, "judge 0 0").go("cell 0 0 0").is(0, "judge 0 0");
        Doc.promise(34, "BAD: SHEET; -11; BAD: it tells more than 8; -5: no such FACE.");
        x.is(-5, "judge 0 1", "judge 0 -1");
        filmRefusals(x, "judge", " 0");
        filmRefusals(x, "judge", " 1");
        x.go("sheet 0 2 8", "warm 0 0", "force 0").is(-1, "judge 0 0").go("sheet 0 2 9").is(-2, "judge 0 0");
    }

    private static void whose() {
        Doc.promise(35, "FACES (bits) of which that is -1.");
        Run x = Run.by(SEVEN).go("sheet 0 2 0").is(0, "whose 0").go("face 0 0 0", "face 0 1 1", "face 0 0 2", "face 0 1 3");
        x.go("face 0 0 4").is(31, "whose 0").sheet(0, 2, 35).is(21, "whose 0").sheet(0, 2, 36, 71).is(10, "whose 0");
        x.sheet(0, 2, 36, 70).is(0, "whose 0").sheet(0, 2, 35, 70, 105, 140, 175, 210, 245, 280).is(21, "whose 0");
        Doc.promise(35, "BAD, -11, BAD likewise.");
        filmRefusals(x, "whose", "");
    }

    private static void began() {
        Doc.promise(36, "SECONDS (bits 0 .. 39) by which, by ONE CAUSE MORE of one then, so MUCH, it would be -1 of "
            + "one.");
        Run x = Run.by("warms 0;cools 1;looks 0;").go("face 0 0 0").sheet(0, 2, 15).is(1, "began 0 0 20").sheet(0, 2, 19);
        x.is(16, "began 0 0 20").sheet(0, 2, 0, 0, 0, 0, 0, 0, 0, 19).is(1L << 39, "began 0 0 20").is(0, "began 0 0 19");
        x.go("sheet 0 2 0").is(FORTY, "began 0 0 0", "began 0 0 400").go("sheet 0 2 8")
            .is(FORTY, "began 0 0 0", "began 0 0 1");
        Run.by(STILL).go("face 0 0 0").sheet(0, 2, 400, 400).is(31, "began 0 0 400").sheet(0, 2, 0)
            .is(FORTY - 31, "began 0 0 400");
        Doc.promise(36, "NO: refused as of whose(), no such FACE, much.");
        x.is(NO, "began 4 0 0", "began -1 0 0", "began 3 0 0", "began 0 1 0", "began 0 -1 0", "began 0 0 -1",
            "began 0 0 401");
        x.go("sheet 0 2 9").is(NO, "began 0 0 0");
    }

    private static void through() {
        Doc.promise(37, "Others (bits) by ONE CAUSE MORE of whom (muchAt: 100 times MUCH, and the SECOND) it would "
            + "be -1 of one.");
        Run x = Run.by(SEVEN).go("face 0 0 0").sheet(0, 2, 35, 70).is(0, "through 0 0 0")
            .go("face 0 0 1", "face 0 0 2", "face 0 0 3");
        x.go("face 0 0 4").is(30, "through 0 0 0", "through 0 0 39", "through 0 0 40000", "through 0 0 40039");
        x.is(27, "through 0 2 0").is(15, "through 0 4 40039").sheet(0, 2, 36).is(0, "through 0 0 100");
        Doc.promise(37, "BAD, -11, BAD likewise; -5: no such FACE; -7: muchAt.");
        x.is(-7, "through 0 0 -1", "through 0 0 40", "through 0 0 99", "through 0 0 40040", "through 0 0 40100",
            "through 0 0 MAX");
        x.is(-5, "through 0 5 0", "through 0 -1 0", "through 0 5 40");
        filmRefusals(x, "through", " 0 0");
        filmRefusals(x, "through", " 5 40");
    }

    private static void kinds() {
        Doc.promise(38, "KINDS (sort 0; bits 0 .. 5), MORE (1; bits 0 .. 9) by which, were they one's, all else "
            + "being as it is, it would be -1 of one.");
        String law = "warms 6+seen*2;cools 3*(70<warmth);looks 0;";
        for (int kind = 0; kind < 6; kind++) {
            Run x = Run.by(law).go("face " + (10 * kind + 3) + " 0 0", "film 0 0 8").is(1 << kind, "kinds 0 0 0");
            x.is(kind, "told 0 2").is(3, "told 0 3");
        }
        for (int more = 0; more < 10; more++) {
            Run x = Run.by("warms more;cools 0;looks 0;").go("face " + (20 + more) + " 0 0", "film 0 0 1")
                .is(1 << more, "kinds 0 0 1");
            x.is(more, "told 0 3").is(2, "told 0 2");
        }
        Run y = Run.by(SEVEN).go("face 0 0 0", "sheet 0 2 0").is(63, "kinds 0 0 0").is(1023, "kinds 0 0 1").sheet(0, 2, 1);
        y.is(0, "kinds 0 0 0", "kinds 0 0 1");
        Doc.promise(38, "BAD, -11, BAD, -5 likewise; -7: sort.");
        y.is(-7, "kinds 0 0 -1", "kinds 0 0 2").is(-5, "kinds 0 1 0", "kinds 0 -1 0", "kinds 0 1 2");
        filmRefusals(y, "kinds", " 0 0");
        filmRefusals(y, "kinds", " 1 2");
    }

    private static void laws() {
        Doc.promise(39, "TEXTS (bits), were they THE LAW, by which it would be -1 of one.");
        Run x = new Run().go("face 0 0 0", "sheet 0 2 0").is(1, "laws 0 0");
        for (int t = 1; t < 6; t++) {
            x.is(t, "count 2").tape("warms " + t + ";cools 0;looks 0;").is(t, "text");
        }
        x.is(63, "laws 0 0").sheet(0, 2, 0).is(1, "laws 0 0");
        for (int t = 1; t < 6; t++) {
            x.sheet(0, 2, 5 * t, 10 * t).is(1 << t, "laws 0 0");
        }
        x.sheet(0, 2, 1).is(0, "laws 0 0", "count 3");
        Doc.promise(39, "BAD, -11, BAD, -5 likewise.");
        x.is(-5, "laws 0 1", "laws 0 -1");
        filmRefusals(x, "laws", " 0");
        filmRefusals(x, "laws", " 1");
    }

    private static void film() {
        Doc.promise(40, "A SHEET truly becomes n (0 .. 8) of these of one (ints): n.");
        Run x = Run.by(SEVEN).go("face 0 0 0", "face 0 1 1").is(8, "film 0 0 8").is(1, "whose 0").is(-1, "judge 0 0");
        x.is(-12, "cell 0 8 0").is(1, "cell 0 7 281").is(7, "judge 0 0").is(1, "film 0 1 1").is(2, "whose 0")
            .is(-12, "cell 0 1 0");
        x.is(0, "film 0 0 0").is(-12, "cell 0 0 0").is(3, "whose 0").go("sheet 3 0 40").is(2, "film 3 0 2")
            .is(0, "facesBy 3 2 0 0");
        x.is(-13, "facesBy 3 0 0 0").is(-12, "cell 3 2 0").is(1, "whose 3").is(-11, "cell 1 0 0", "cell 2 0 0");
        Doc.promise(40, "BAD: SHEET; -5: no such FACE; -7: n.");
        x.is(-7, "film 1 0 -1", "film 1 0 9").is(-5, "film 1 2 0", "film 1 -1 0", "film 1 2 9").is(-11, "cell 1 0 0");
        x.is(-2, "film 4 0 0", "film -1 0 0", "film 4 2 9").is(1, "whose 3");
    }

    // ---- causes by lot

    private static void drawn() {
        Doc.promise(41, "DRAWN: who is RED behind any SECOND (bits).");
        Run x = Run.by(STILL).is(0, "drawn 0 400").go("face 0 0 0", "face 0 0 1", "face 0 0 2", "face 0 0 3", "face 0 0 4");
        // SECONDS 31, 34, 6, 77, 1 and 66, 39, 55, 73, 75
        x.is(0, "drawn 0 0", "drawn 0 59").is(23, "drawn 0 60", "drawn 0 400").is(2, "drawn 99999 60", "drawn 99999 400");
        x.go("warm 3 60").is(8, "drawn 0 0").is(31, "drawn 0 60").is(10, "drawn 99999 400").is(0, "told 0 0", "count 1");
        Doc.promise(41, "BAD.");
        x.is(-2, "drawn -1 0", "drawn 100000 0", "drawn 0 -1", "drawn 0 401", "drawn MIN 0", "drawn MAX 0");
    }

    private static int common(int a, int b) {
        return b == 0 ? a : common(b, a % b);
    }

    private static void odds() {
        Doc.promise(42, "In how many of so many (1 .. 20) seeds, SEED and each 1 more (they may pass 99999), one is "
            + "(facePart: 10 times the FACE, and part): part 0 above, 1 below the line, in lowest terms.");
        Run x = Run.by(STILL).go("face 0 0 0", "face 0 0 1", "face 0 0 2", "face 0 0 3", "face 0 0 4");
        for (int first : new int[] {0, 99981, 99999}) {
            int red = 0;
            for (int seeds = 1; seeds <= 20; seeds++) {
                // the fifth LOT
                long lot = first + seeds;
                for (int f = 0; f < 5; f++) {
                    lot = lot * 48271L % 2147483647L;
                }
                red += lot % 80 < 40 ? 1 : 0;
                int c = common(red, seeds);
                x.is(red / c, "odds " + first + " " + seeds + " 60 40")
                    .is(seeds / c, "odds " + first + " " + seeds + " 60 41");
            }
        }
        x.is(0, "odds 0 20 59 0", "odds 99999 20 0 40").is(1, "odds 0 20 59 1", "odds 99999 20 0 41").go("warm 4 60");
        x.is(1, "odds 0 20 0 40", "odds 0 20 0 41", "odds 99999 20 400 40", "odds 99999 1 0 41");
        Doc.promise(42, "NO: none such.");
        x.is(NO, "odds -1 1 60 0", "odds 100000 1 60 0", "odds 0 0 60 0", "odds 0 21 60 0", "odds 0 1 -1 0",
            "odds 0 1 401 0");
        x.is(NO, "odds 0 1 60 50", "odds 0 1 60 -1", "odds 0 1 60 2", "odds 0 1 60 9", "odds 0 1 60 42", "odds 0 1 60 MAX");
        x.is(NO, "odds MAX 1 60 0", "odds 0 MAX 60 0", "odds 0 -1 60 0");
        new Run().is(NO, "odds 0 1 60 0");
    }

    private static void image() {
        Doc.promise(43, "AN IMAGE is kept: how many FACES.");
        Run x = new Run().is(0, "image").go("face 0 7 0").is(1, "image").go("warm 0 8").is(1, "image").go("warm 0 9");
        x.is(1, "back").is(8, "told 0 0").go("face 0 0 1", "face 0 0 2", "face 0 0 3", "face 0 0 4").is(5, "image", "back");
    }

    private static void back() {
        Doc.promise(44, "All that it keeps is as in THE IMAGE, FACES that came since are none: how many there are.");
        Run x = Run.by(STILL)
            .go("face 34 7 3", "cause 5 0 9", "lamp 3 2", "image", "warm 0 8", "sit 0 4", "lamp 3 3", "lamp 7 1");
        x.go("cause 6 0 1", "face 0 0 3", "face 0 0 0", "face 0 0 1", "face 0 0 2", "force 0").is(-4, "face 0 0 7")
            .is(1, "back");
        x.is(7, "told 0 0").is(3, "told 0 1", "told 0 2").is(4, "told 0 3").is(2, "told 0 4").is(0, "lamp 7 0")
            .is(1, "count 1");
        x.is(5, "causeTold 0 0").is(9, "causeTold 0 2").is(1, "count 3").is(-5, "told 1 0", "cause 0 1 0")
            .is(-3, "face 0 0 3");
        x.is(1, "face 12 5 4").is(1, "told 1 2").is(1, "back", "back").is(-5, "told 1 0");
        // what it does not keep stays: TEXTS, THE TAPE, SHEETS
        x.tape(STILL).is(2, "text").tape("abc").sheet(0, 2, 1, 2, 3).is(1, "back").is(3, "count 2", "count 4")
            .is(1, "cell 0 2 3");
        Doc.promise(44, "STATE: there is none.");
        new Run().is(-3, "back").go("face 0 0 0").is(-3, "back").is(1, "count 0", "image", "back");
    }

    // ---- the host

    private static void sheet() {
        Doc.promise(45, "A SHEET becomes a row of n of a sort, all 0, or missing (sort -1: n does not matter): 1.");
        Run x = Run.by(STILL).go("face 0 0 0");
        for (int sort = 0; sort < 3; sort++) {
            x.is(1, "sheet 3 " + sort + " 40", "cell 3 39 5", "cell 3 0 5", "cell 3 7 5")
                .is(-12, "cell 3 40 5", "cell 3 -1 5");
            x.is(1, "sheet 3 " + sort + " 8").is(-1, "judge 3 0").is(-12, "cell 3 8 5").is(1, "sheet 3 " + sort + " 0");
            x.is(-12, "cell 3 0 5").is(-1, "judge 3 0").is(1, "sheet 3 -1 0").is(-11, "cell 3 0 5");
        }
        x.is(1, "sheet 0 0 0", "sheet 0 -1 -1", "sheet 0 -1 41", "sheet 0 -1 MIN", "sheet 0 -1 MAX").is(-11, "cell 0 0 0");
        Doc.promise(45, "BAD: SHEET, sort, n above 40; -14.");
        x.is(-2, "sheet -1 0 0", "sheet 4 0 0", "sheet 0 -2 0", "sheet 0 3 0", "sheet 0 0 41", "sheet 0 2 MAX",
            "sheet 4 0 -1");
        x.is(-2, "sheet 0 3 -1", "sheet -1 -1 0").is(-14, "sheet 0 0 -1", "sheet 3 2 MIN")
            .is(-11, "cell 0 0 0", "cell 3 0 0");
        x.sheet(0, 1, 7, 7).is(-14, "sheet 0 1 -1").is(-2, "sheet 0 1 41").go("warm 0 7").is(-1, "judge 0 0")
            .is(-12, "cell 0 2 7");
    }

    /** Number v put on a SHEET of a sort, alone, is told as so much, which is a WARMTH; or as no such one. */
    private static void put(int sort, String v, int told, boolean so) {
        Run x = Run.by(STILL).go("face 0 " + told + " 0", "sheet 0 " + sort + " 3").is(1, "cell 0 1 " + v);
        x.go("sheet 1 " + sort + " 1").is(1, "copy 0 1 1 0 1").is(so ? -1 : 0, "judge 1 0");
        // those beside it are 0 still
        x.go("warm 0 0").is(1, "copy 0 0 1 0 1").is(-1, "judge 1 0").is(1, "copy 0 2 1 0 1").is(-1, "judge 1 0");
    }

    private static void cell() {
        Doc.promise(46, "Number i of a SHEET becomes v (of bytes, shorts its lowest 8, 16 bits): 1.");
        put(0, "127", 127, true);
        put(0, "128", 128, false);
        put(0, "255", 255, false);
        put(0, "256", 0, true);
        put(0, "383", 127, true);
        put(0, "-129", 127, true);
        put(0, "-128", 128, false);
        put(0, "MIN", 0, true);
        put(1, "400", 400, true);
        put(1, "65536", 0, true);
        put(1, "65936", 400, true);
        put(1, "-65136", 400, true);
        put(1, "65535", 255, false);
        put(1, "256", 0, false);
        put(1, "MIN", 0, true);
        put(2, "400", 400, true);
        put(2, "65936", 400, false);
        put(2, "65536", 0, false);
        put(2, "MIN", 0, false);
        Doc.promise(46, "BAD: SHEET; -11; -12.");
        Run x = new Run().go("sheet 0 0 1", "sheet 3 2 40").is(1, "cell 0 0 9", "cell 3 0 9", "cell 3 39 9");
        x.is(-12, "cell 0 1 9", "cell 0 -1 9", "cell 3 40 9", "cell 3 MIN 9", "cell 3 MAX 9")
            .is(-11, "cell 1 0 9", "cell 2 -1 9");
        x.is(-2, "cell 4 0 9", "cell -1 -1 9");
    }

    /** The SHEET of ints tells these numbers (each a WARMTH) and no more. */
    private static void tells(Run x, int s, int... numbers) {
        x.is(-12, "cell " + s + " " + numbers.length + " 0").go("sheet 3 2 1");
        for (int i = 0; i < numbers.length; i++) {
            x.go("warm 0 " + numbers[i]).is(1, "copy " + s + " " + i + " 3 0 1").is(-1, "judge 3 0");
        }
    }

    private static void copy() {
        Doc.promise(47, "n numbers of a SHEET, from i on, come to another one's (or its own) place j (as they "
            + "were): n.");
        Run x = Run.by(STILL).go("face 0 0 0").sheet(0, 2, 1, 2, 3, 4, 5).sheet(1, 2, 0, 0, 0).is(2, "copy 0 3 1 1 2");
        tells(x, 1, 0, 4, 5);
        tells(x, 0, 1, 2, 3, 4, 5);
        x.is(3, "copy 0 0 1 0 3").is(4, "copy 0 0 0 1 4");
        tells(x, 0, 1, 1, 2, 3, 4);
        x.is(4, "copy 0 1 0 0 4");
        tells(x, 0, 1, 2, 3, 4, 4);
        tells(x, 1, 1, 2, 3);
        x.is(5, "copy 0 0 0 0 5").is(0, "copy 0 5 1 3 0", "copy 0 0 1 0 0", "copy 0 5 0 5 0").is(1, "copy 0 4 1 2 1");
        tells(x, 1, 1, 2, 4);
        Run y = Run.by(STILL).go("face 0 3 0", "sheet 0 0 40", "sheet 1 0 40", "cell 0 39 3", "cell 0 0 3")
            .is(40, "copy 0 0 1 0 40");
        y.go("sheet 2 0 1").is(1, "copy 1 39 2 0 1").is(-1, "judge 2 0").is(1, "copy 1 38 2 0 1").is(0, "judge 2 0");
        Doc.promise(47, "BAD: SHEETS; -11; -13: unlike sorts; -12 (n below 0, too).");
        x.go("sheet 2 1 5", "sheet 3 -1 0").is(-2, "copy 4 0 0 0 0", "copy 0 0 4 0 0", "copy -1 0 3 0 0", "copy 3 0 -1 0 0");
        x.is(-11, "copy 3 0 0 0 0", "copy 0 0 3 0 0", "copy 3 0 3 -1 0").is(-13, "copy 0 0 2 0 0", "copy 2 0 0 9 -1");
        x.is(-12, "copy 0 0 1 0 4", "copy 0 3 1 0 3", "copy 0 0 1 1 3", "copy 0 -1 1 0 1", "copy 0 0 1 -1 1",
            "copy 0 0 1 0 -1");
        x.is(-12, "copy 0 6 1 0 0", "copy 0 0 1 4 0", "copy 0 MAX 1 0 1", "copy 0 0 1 MAX 1", "copy 0 1 1 0 MAX",
            "copy 0 MAX 1 0 MAX");
        tells(x, 1, 1, 2, 4);
    }

    private static void facesBy() {
        Doc.promise(48, "FACES by a SHEET of a sort: from a place on, three by three (as of face()), n of them (0 "
            + ".. 5): how many came (others are left out).");
        int[] five = {9, 0, 400, 0, 59, 400, 7, 11, 1, 1, 23, 2, 2, 35, 3, 3};
        Run x = new Run().sheet(0, 2, five).is(0, "facesBy 0 2 1 0", "count 0").is(5, "facesBy 0 2 1 5", "count 0");
        x.is(400, "told 0 0", "told 1 0").is(0, "told 0 1", "told 0 2").is(7, "told 1 1").is(5, "told 1 2", "told 4 3")
            .is(9, "told 1 3");
        x.is(3, "told 4 0", "told 4 1", "told 4 2").is(0, "facesBy 0 2 1 5");
        // left out: BAD, STATE, FULL
        Run y = new Run().sheet(0, 1, 60, 0, 0, 0, 401, 0, 0, 0, 8, 0, -1, 1, 12, 34, 5).is(1, "facesBy 0 1 0 5", "count 0");
        y.is(34, "told 0 0").is(0, "facesBy 0 1 12 1").sheet(0, 1, 0, 0, 5, 0, 0, 0, 0, 0, 1, 0, 0, 0)
            .is(2, "facesBy 0 1 0 4");
        y.go("face 0 0 2", "face 0 0 3").sheet(0, 1, 0, 0, 4).is(0, "facesBy 0 1 0 1").is(5, "count 0");
        Run z = new Run().sheet(2, 0, 59, 127, 7, 0, 128, 6).is(1, "facesBy 2 0 0 2").is(127, "told 0 0");
        Doc.promise(48, "BAD: SHEET, sort, n; -11; -13; -12: what stood ahead came.");
        z.is(-2, "facesBy 4 0 0 1", "facesBy -1 0 0 1", "facesBy 2 3 0 1", "facesBy 2 -1 0 1", "facesBy 2 0 0 -1",
            "facesBy 2 0 0 6");
        z.is(-2, "facesBy 3 0 0 6", "facesBy 3 3 0 0").is(-11, "facesBy 3 0 0 0", "facesBy 3 2 -1 5")
            .is(-13, "facesBy 2 1 0 0");
        z.is(-13, "facesBy 2 2 -1 5").is(-12, "facesBy 2 0 -1 1", "facesBy 2 0 4 1", "facesBy 2 0 6 1", "facesBy 2 0 MAX 5");
        z.is(-12, "facesBy 2 0 MIN 1", "facesBy 2 0 2147483646 1").is(1, "count 0");
        z.sheet(1, 2, 0, 0, 1, 60, 0, 0, 0, 0, 2, 0, 0).is(-12, "facesBy 1 2 0 4").is(3, "count 0").is(1, "told 1 1")
            .is(2, "told 2 1");
        z.is(-12, "facesBy 1 2 9 1").is(3, "count 0");
    }

    private static void taken() {
        Doc.promise(49, "What lies at place i: 0 .. 7 SEATS that are LIGHT at all, 8 .. 12 FACES, taken for 0 .. 5 "
            + "a FACE of that KIND (also of one that is one): its number; 6 a SEAT: how LIGHT.");
        Run x = new Run().go("lamp 0 1", "lamp 7 9").is(1, "taken 0 6").is(9, "taken 7 6").is(-11, "taken 1 6", "taken 6 6");
        x.go("lamp 0 0").is(-11, "taken 0 6", "taken 0 0");
        int[][] also = {{0}, {0, 1}, {0, 2}, {0, 1, 3}, {0, 2, 4}, {0, 5}};
        for (int kind = 0; kind < 5; kind++) {
            x.is(-11, "taken " + (8 + kind) + " 0").go("face " + 10 * kind + " 0 " + kind);
            takenFor(x, kind, also[kind]);
        }
        takenFor(new Run().go("face 50 0 7"), 0, also[5]);
        Doc.promise(49, "BAD: kind; -12: i; -11: nothing lies there; -13.");
        x.is(-2, "taken 7 -1", "taken 7 7", "taken 13 7", "taken 1 7")
            .is(-12, "taken -1 6", "taken 13 0", "taken MIN 0", "taken MAX 6");
        x.is(-11, "taken 1 0", "taken 1 6").is(-13, "taken 7 0", "taken 7 5", "taken 8 6", "taken 12 6");
        new Run().is(-11, "taken 8 0", "taken 12 6", "taken 12 5");
    }

    private static void takenFor(Run x, int f, int... kinds) {
        for (int kind = 0; kind < 7; kind++) {
            boolean one = false;
            for (int k : kinds) {
                one |= k == kind;
            }
            x.is(one ? f : -13, "taken " + (8 + f) + " " + kind);
        }
    }
}
