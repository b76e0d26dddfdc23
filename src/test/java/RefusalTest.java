import java.util.ArrayList;
import java.util.List;
import java.util.function.Supplier;

/**
 * Each refusal that a promise names: the last value that is allowed and the first that is not, on either side;
 * of several refusals the first one told; and that one that is refused, or asks, changes nothing.
 */
public final class RefusalTest {
    private static final long NO = -4611686018427387904L;

    /** A number of a call: its place in it, what is allowed, what is answered else, one that is allowed. */
    private record Bound(int place, long low, long high, long refusal, int fit) { }

    private static final String RICH = Worlds.look(Worlds.rich());
    private static final String FULL = Worlds.look(Worlds.full());
    private static final String BARE = Worlds.look(Worlds.bare());

    public static void main(String[] args) {
        looksTellWorldsApart();
        numbers();
        refusedInBare();
        refusedInRich();
        refusedInFull();
        refusalsThatTellWhatTheyChange();
        askingChangesNothing();
        askingLeavesNothingBehind();
        Due.end();
    }

    /** A look is worth nothing, if it does not see what a call changes. */
    private static void looksTellWorldsApart() {
        Due.part("a look");
        Due.that("is the same of the same", RICH.equals(Worlds.look(Worlds.rich())));
        String[] changes = {"feed 1 32 0 0 0 0", "text", "force 1", "face 0 0 0", "warm 2 41", "sit 2 0", "lamp 0 1",
            "cause 39 2 400", "uncause", "pass 1", "film 1 0 3", "image", "back", "sheet 0 -1 0", "sheet 1 0 3",
            "sheet 2 2 10", "sheet 3 0 0", "cell 0 4 61", "cell 0 0 72", "cell 1 0 72", "cell 2 8 94", "copy 0 0 0 1 1",
                "facesBy 2 2 0 0"};
        for (String change : changes) {
            Run x = Worlds.rich();
            x.ask(change);
            boolean same = RICH.equals(Worlds.look(x));
            Due.that(change + " is seen", same == change.equals("facesBy 2 2 0 0"));
        }
    }

    private static void refused(Supplier<Run> world, String look, long want, String... told) {
        for (String call : told) {
            Run x = world.get();
            Due.is(call, want, x.ask(call));
            Due.that(call + " changes nothing", look.equals(Worlds.look(x)));
        }
    }

    private static void rich(long want, String... told) {
        refused(Worlds::rich, RICH, want, told);
    }

    private static void full(long want, String... told) {
        refused(Worlds::full, FULL, want, told);
    }

    private static void bare(long want, String... told) {
        refused(Worlds::bare, BARE, want, told);
    }

    // ---- numbers that are not as told

    /** In the order in which the document tells them: place:low..high=refusal, and one that fits. */
    private static void numbers() {
        bounds("2", "count", "0:0..4=-2,0");
        bounds("3", "feed", "0:1..5=-2,5", "1:0..255=-2,9", "2:0..255=-2,9", "3:0..255=-2,9", "4:0..255=-2,9",
            "5:0..255=-2,9");
        bounds("5", "force", "0:0..2=-2,0");
        bounds("6", "asks", "0:0..2=-2,1", "1:0..400=-2,7", "2:0..49=-2,7", "3:0..401=-2,1", "4:0..9=-2,3");
        bounds("7", "face", "0:0..59=-2,7", "1:0..400=-2,7", "2:0..7=-2,0");
        bounds("8", "warm", "0:0..2=-5,1", "1:0..400=-7,7");
        bounds("9", "sit", "0:0..2=-5,1", "1:0..7=-7,7");
        bounds("10", "lamp", "0:0..7=-5,1", "1:0..9=-7,7");
        bounds("11", "told", "0:0..2=-5,1", "1:0..5=-7,0");
        bounds("12", "cause", "1:0..2=-5,1", "0:0..39=-7,7", "2:0..400=-7,7");
        bounds("14", "causeTold", "0:0..2=-5,1", "1:0..2=-7,0");
        bounds("15", "at", "0:0..40=-5,5", "1:0..2=-5,1", "2:0..2=-7,0");
        bounds("16", "red", "0:0..2=-5,1", "1:0..4=-7,0");
        bounds("17", "row", "0:0..40=-5,5", "1:0..2=-7,0");
        bounds("18", "pass", "0:0..40=-2,5");
        bounds("19", "dies", "0:0..2=-5,1");
        bounds("20", "line", "0:0..2=-5,1");
        bounds("21", "stops", "0:0..2=-5,1", "1:0..319=-7,0", "2:0..4=-7,0");
        bounds("22", "best", "0:0..2=-5,1", "1:0..1=-7,0");
        bounds("23", "latest", "0:0..2=-5,1", "1:0..3=-7,0");
        bounds("25", "turn", "0:0..2=-100000,1", "1:0..1=-100000,0");
        bounds("26", "stares", "0:0..2=-100000,1");
        bounds("27", "where", "0:0..2=-5,1", "1:0..1=-7,0");
        bounds("28", "change", "0:0..1=-2,0");
        bounds("29", "shade", "0:0..7=-5,1", "1:0..1=-7,0");
        bounds("30", "sets", "0:0..2=-5,1", "1:0..400=-7,7");
        bounds("31", "needs", "0:0..2=-5,1");
        bounds("32", "asked", "0:0..400=-2,7", "1:0..40=-2,5");
        bounds("34", "judge", "0:0..1=-2,1", "1:0..2=-5,1");
        bounds("35", "whose", "0:0..1=-2,1");
        bounds("36", "began", "0:0..1=NO,1", "1:0..2=NO,1", "2:0..400=NO,7");
        bounds("37", "through", "0:0..1=-2,1", "1:0..2=-5,1", "2:0..40039=-7,7");
        bounds("38", "kinds", "0:0..1=-2,1", "1:0..2=-5,1", "2:0..1=-7,0");
        bounds("39", "laws", "0:0..1=-2,1", "1:0..2=-5,1");
        bounds("40", "film", "0:0..3=-2,1", "1:0..2=-5,1", "2:0..8=-7,1");
        bounds("41", "drawn", "0:0..99999=-2,7", "1:0..400=-2,7");
        bounds("42", "odds", "0:0..99999=NO,7", "1:1..20=NO,2", "2:0..400=NO,7", "3:0..21=NO,0");
        bounds("45", "sheet", "0:0..3=-2,1", "1:-1..2=-2,1");
        bounds("46", "cell", "0:0..2=-2,0", "1:0..4=-12,0");
        bounds("49", "taken", "1:0..6=-2,0", "0:0..12=-12,8");
    }

    private static void bounds(String promise, String call, String... told) {
        Due.part("Promise " + promise);
        List<Bound> bounds = new ArrayList<>();
        for (String bound : told) {
            String[] parts = bound.split(":|\\.\\.|=|,");
            bounds.add(new Bound(Integer.parseInt(parts[0]), Long.parseLong(parts[1]), Long.parseLong(parts[2]),
                parts[3].equals("NO") ? NO : Long.parseLong(parts[3]), Integer.parseInt(parts[4])));
        }
        for (Bound bound : bounds) {
            lastAllowed(call, bounds, bound);
            firstRefused(call, bounds, bound);
        }
        firstTold(call, bounds);
    }

    private static String callWith(String call, List<Bound> bounds, long[] numbers) {
        StringBuilder text = new StringBuilder(call);
        String[] words = new String[numberOfNumbers(call)];
        java.util.Arrays.fill(words, "0");
        for (int b = 0; b < bounds.size(); b++) {
            words[bounds.get(b).place] = Long.toString(numbers[b]);
        }
        for (String word : words) {
            text.append(' ').append(word);
        }
        return text.toString();
    }

    /** Those that have numbers without bounds of their own; else as many as there are bounds. */
    private static int numberOfNumbers(String call) {
        switch (call) {
            case "feed": return 6;
            case "asks": return 5;
            case "odds": return 4;
            case "face": case "cause": case "at": case "stops": case "began": case "through": case "kinds":
            case "film": case "sheet": case "cell": return 3;
            case "count": case "force": case "pass": case "dies": case "line": case "stares": case "change":
            case "needs": case "whose": return 1;
            default: return 2;
        }
    }

    private static long[] fitting(List<Bound> bounds) {
        long[] numbers = new long[bounds.size()];
        for (int b = 0; b < numbers.length; b++) {
            numbers[b] = bounds.get(b).fit;
        }
        return numbers;
    }

    private static void lastAllowed(String call, List<Bound> bounds, Bound bound) {
        for (long edge : new long[] {bound.low, bound.high}) {
            long[] numbers = fitting(bounds);
            numbers[bounds.indexOf(bound)] = edge;
            String text = callWith(call, bounds, numbers);
            long answer = Worlds.rich().ask(text);
            boolean refused = answer == -2 || answer == -5 || answer == -7 || answer == -100000 || answer == NO;
            Due.that(text + " is not refused", !refused && answer != -12);
        }
    }

    private static long[] outside(Bound bound) {
        return new long[] {bound.low - 1, bound.high + 1, Integer.MIN_VALUE, Integer.MAX_VALUE};
    }

    private static void firstRefused(String call, List<Bound> bounds, Bound bound) {
        for (long edge : outside(bound)) {
            boolean sheetAbove = call.matches("judge|whose|began|through|kinds|laws|cell") && bound.place == 0;
            // between the SHEETS that fit and the first that is none are others, which are asked by themselves
            long number = sheetAbove && edge == bound.high + 1 ? 4 : edge;
            long[] numbers = fitting(bounds);
            numbers[bounds.indexOf(bound)] = number;
            rich(bound.refusal, callWith(call, bounds, numbers));
        }
    }

    /** Some are outside at once, in all ways to choose them: the first one told. */
    private static void firstTold(String call, List<Bound> bounds) {
        for (int chosen = 1; chosen < 1 << bounds.size(); chosen++) {
            for (int way = 0; way < 4 && Integer.bitCount(chosen) > 1; way++) {
                long[] numbers = fitting(bounds);
                long want = 0;
                for (int b = bounds.size() - 1; b >= 0; b--) {
                    if ((chosen >> b & 1) != 0) {
                        numbers[b] = outside(bounds.get(b))[way] + (way == 1 ? 4 : 0);
                        want = bounds.get(b).refusal;
                    }
                }
                String text = callWith(call, bounds, numbers);
                Run x = Worlds.rich();
                Due.is(text, want, x.ask(text));
                if (way == 0) {
                    Due.that(text + " changes nothing", RICH.equals(Worlds.look(x)));
                }
            }
        }
    }

    // ---- refusals by what stands there, or does not

    private static void refusedInBare() {
        Due.part("nothing there");
        bare(-100, "text");
        bare(-2, "force 1", "force -1", "count 5");
        bare(-5, "warm 0 0", "warm 0 401", "sit 0 0", "sit 0 8", "told 0 0", "told 0 6", "cause 0 0 0", "cause 40 0 401",
            "causeTold 0 0", "causeTold 0 3", "at 0 0 0", "at 41 0 0", "at 0 0 3", "red 0 0", "red 0 5", "dies 0",
            "line 0", "stops 0 0 0", "stops 0 320 5", "best 0 0", "best 0 2", "latest 0 0", "latest 0 4", "where 0 0",
            "where 0 2", "sets 0 0", "sets 0 401", "needs 0", "film 0 0 0", "film 0 0 9");
        bare(-100000, "adds 0 1", "adds 0 0", "turn 0 0", "turn 0 2", "stares 0");
        bare(NO, "guilty 0 0 0 0", "odds 0 1 0 0", "began 0 0 0");
        bare(-3, "uncause", "back");
        bare(-11, "judge 0 0", "judge 3 -1", "whose 0", "whose 3", "through 0 0 0", "through 0 9 -1", "kinds 0 0 0",
            "kinds 0 9 2", "laws 0 0", "laws 0 9", "cell 0 0 0", "cell 3 -1 0", "cell 0 MAX 0", "copy 0 0 1 0 0",
            "copy 0 -1 0 -1 -1", "facesBy 0 0 0 0", "facesBy 3 2 -1 5");
        bare(-2, "film 4 0 0", "film -1 9 9", "judge 4 0", "whose -1", "through 4 0 0", "kinds 4 0 0", "laws 4 0",
            "cell 4 0 0", "copy 0 0 4 0 0", "copy -1 0 0 0 0", "facesBy 0 0 0 6", "facesBy 0 3 0 0");
        bare(-14, "sheet 0 0 -1", "sheet 3 2 MIN");
        for (int i = 0; i < 13; i++) {
            for (int kind = 0; kind < 7; kind++) {
                bare(-11, "taken " + i + " " + kind);
            }
        }
    }

    private static void refusedInRich() {
        Due.part("Promise 6: seen is 1 or 0");
        rich(-2, "asks 0 0 0 2 0", "asks 1 0 0 9 0", "asks 2 0 0 12 0", "asks 0 0 0 392 0", "asks 0 0 0 399 0");
        Due.part("Promise 7: another one sits there");
        rich(-3, "face 0 0 1", "face 0 0 4", "face 59 400 6");
        rich(-2, "face 60 0 1", "face 0 401 4", "face -1 -1 6");
        Due.part("Promise 21: at is 0 .. 19");
        rich(-7, "stops 0 20 0", "stops 0 99 0", "stops 0 120 0", "stops 0 199 0", "stops 0 220 0", "stops 0 299 0",
            "stops 2 20 4");
        rich(-5, "stops 3 20 0", "stops -1 99 5");
        Due.part("Promise 24: no such two");
        rich(-100000, "adds 0 0", "adds 1 1", "adds 2 2", "adds 3 0", "adds 0 3", "adds -1 0", "adds 0 -1", "adds 3 3",
            "adds MIN 0", "adds 0 MAX", "adds -1 -1");
        Due.part("Promise 33: none such");
        rich(NO, "guilty -1 400000 1 0", "guilty 3 400000 1 0", "guilty 0 -1 1 0", "guilty 0 400401 1 0",
            "guilty 0 401000 1 0", "guilty 0 401 1 0", "guilty 0 999 1 0", "guilty 0 MIN 1 0", "guilty 0 MAX 1 0",
            "guilty 0 400000 -1 0", "guilty 0 400000 41 0", "guilty 0 400000 1 -1", "guilty 0 400000 1 2",
            "guilty MIN 400000 1 0", "guilty MAX 400000 1 0", "guilty 0 400000 MAX 0", "guilty 0 400000 1 MAX");
        Due.part("Promise 33: one can't be RED then");
        rich(NO, "guilty 0 0 0 0", "guilty 1 400400 0 1");
        films();
        Due.part("Promise 37: muchAt");
        rich(-7, "through 0 0 40", "through 0 0 99", "through 0 0 140", "through 0 0 39940", "through 0 0 40040",
            "through 0 0 40100");
        rich(-5, "through 0 3 40");
        Due.part("Promise 42: part");
        rich(NO, "odds 0 1 0 2", "odds 0 1 0 9", "odds 0 1 0 12", "odds 0 1 0 22", "odds 0 1 0 30", "odds 0 1 0 31");
        host();
    }

    private static void films() {
        Due.part("Promises 34 to 40: SHEET, nothing there, more than 8, the others");
        // SHEET 2 tells 9, SHEET 3 is missing
        rich(-2, "judge 2 0", "judge 2 9", "whose 2", "through 2 0 0", "through 2 9 -1", "kinds 2 0 0", "kinds 2 9 9",
            "laws 2 0", "laws 2 -1");
        rich(-11, "judge 3 0", "judge 3 9", "whose 3", "through 3 0 0", "through 3 9 -1", "kinds 3 0 0", "kinds 3 9 9",
            "laws 3 0", "laws 3 -1");
        rich(NO, "began 2 0 0", "began 3 0 0", "began 2 9 401");
        rich(-5, "kinds 0 3 9", "film 3 3 9", "through 0 -1 -1");
        rich(-7, "film 3 0 9", "film 3 2 -1");
    }

    private static void host() {
        Due.part("Promise 45");
        rich(-2, "sheet 0 0 41", "sheet 3 2 MAX", "sheet 4 0 -1", "sheet 0 3 -1", "sheet 0 -2 0", "sheet 4 -1 0",
            "sheet -1 3 41");
        rich(-14, "sheet 0 0 -1", "sheet 1 1 MIN", "sheet 3 2 -1");
        Due.part("Promise 46");
        rich(-11, "cell 3 0 0", "cell 3 -1 0", "cell 3 40 0");
        rich(-12, "cell 0 5 0", "cell 0 -1 0", "cell 1 3 0", "cell 2 9 0", "cell 2 MAX 0", "cell 2 MIN 0");
        Due.part("Promise 47");
        rich(-2, "copy 4 0 0 0 1", "copy 0 0 4 0 1", "copy -1 0 3 0 1", "copy 3 0 -1 0 1", "copy MIN 0 MAX 0 0");
        rich(-11, "copy 3 0 0 0 1", "copy 0 0 3 0 1", "copy 3 0 3 0 0", "copy 3 -1 0 9 -1");
        rich(-13, "copy 0 0 1 0 1", "copy 1 0 2 0 1", "copy 2 0 0 0 1", "copy 0 9 1 0 1", "copy 0 0 1 -1 -1");
        rich(-12, "copy 0 -1 0 0 1", "copy 0 0 0 -1 1", "copy 0 0 0 0 -1", "copy 0 0 0 0 6", "copy 0 1 0 0 5",
            "copy 0 0 0 1 5", "copy 0 5 0 0 1", "copy 0 0 0 5 1", "copy 0 6 0 0 0", "copy 0 0 0 6 0", "copy 0 -1 0 0 0",
            "copy 0 MAX 0 0 1", "copy 0 0 0 MAX 1", "copy 0 0 0 0 MAX", "copy 0 1 0 1 MAX", "copy 0 MAX 0 MAX MAX",
            "copy 0 MIN 0 0 1", "copy 0 0 0 0 MIN", "copy 0 MIN 0 MIN MIN");
        Due.part("Promise 48");
        rich(-2, "facesBy 4 0 0 1", "facesBy -1 0 0 1", "facesBy 0 3 0 1", "facesBy 0 -1 0 1", "facesBy 0 0 0 6",
            "facesBy 0 0 0 -1", "facesBy 3 0 0 6", "facesBy 3 -1 0 0", "facesBy 0 1 0 6", "facesBy 0 0 -1 MAX");
        rich(-11, "facesBy 3 0 0 1", "facesBy 3 2 -1 5");
        rich(-13, "facesBy 0 1 0 1", "facesBy 0 2 -1 1", "facesBy 1 2 0 0", "facesBy 2 0 9 5");
        rich(-12, "facesBy 0 0 -1 1", "facesBy 0 0 3 1", "facesBy 0 0 5 1", "facesBy 1 1 1 1", "facesBy 2 2 MAX 1",
            "facesBy 2 2 MIN 5", "facesBy 2 2 2147483645 5");
        Due.part("Promise 49");
        rich(-2, "taken 13 7", "taken -1 -1", "taken 11 7", "taken 4 -1");
        rich(-12, "taken 13 0", "taken -1 6", "taken MIN 0", "taken MAX 6");
        rich(-11, "taken 0 0", "taken 0 6", "taken 7 6", "taken 11 0", "taken 12 6");
        rich(-13, "taken 1 0", "taken 3 5", "taken 8 6", "taken 8 2", "taken 8 4", "taken 8 5", "taken 9 1", "taken 9 3",
            "taken 9 4", "taken 10 1", "taken 10 2", "taken 10 6");
    }

    private static void refusedInFull() {
        Due.part("Promise 3: FULL");
        for (int n = 1; n <= 5; n++) {
            full(-4, "feed " + n + " 32 32 32 32 32");
            full(-2, "feed " + n + " 32 32 32 32 256", "feed " + n + " -1 32 32 32 32");
        }
        full(-2, "feed 0 32 32 32 32 32", "feed 6 32 32 32 32 32");
        Due.part("Promise 4: FULL, and THE TAPE stays");
        full(-4, "text");
        Due.part("Promise 7: BAD, FULL, STATE");
        full(-4, "face 0 0 4", "face 0 0 6", "face 0 0 0", "face 59 400 7");
        full(-2, "face 60 0 4", "face 0 401 0", "face 0 0 8");
        Due.part("Promise 12: -5, -7, FULL");
        full(-4, "cause 0 0 0", "cause 39 4 400");
        full(-7, "cause 40 0 0", "cause 0 0 401", "cause -1 4 -1");
        full(-5, "cause 0 5 0", "cause 40 5 401", "cause 0 -1 0");
        Due.part("all there, one more is none");
        full(-5, "told 5 0", "causeTold 8 0", "warm 5 0", "sit 5 0", "at 40 5 0", "red 5 0", "needs 5", "line 5", "dies 5",
            "where 5 0", "sets 5 0", "stops 5 0 0", "best 5 0", "latest 5 0", "film 0 5 1");
        full(-100000, "adds 5 0", "adds 0 5", "turn 5 0", "stares 5");
        full(-2, "force 6");
        full(NO, "guilty 5 400000 1 0", "odds 0 1 0 50", "odds 0 1 0 51", "began 0 5 0");
        full(-12, "cell 2 40 0", "copy 2 1 2 0 40", "copy 2 0 2 1 40", "copy 2 0 2 0 41", "facesBy 2 2 38 1");
        full(-2, "judge 2 0", "whose 2");
    }

    // ---- where it is told what a refusal changes

    private static void refusalsThatTellWhatTheyChange() {
        Due.part("Promise 4: THE TAPE is empty then, by a FAULT, too");
        Run faulty = Worlds.rich().is(-116, "text").is(0, "count 4").is(3, "count 2");
        faulty.tape("warms 7;cools 2;lo");
        Due.that("nothing else is changed", RICH.equals(Worlds.look(faulty)));
        Due.part("Promise 48: what stood ahead came");
        int[] film = {0, 31, 0, 60, 0, 2, 11, 44, 4, 12, 44, 5, 13, 22};
        Run refused = Worlds.rich().sheet(3, 2, film).is(-12, "facesBy 3 2 0 5").go("sheet 3 -1 0");
        Run come = Worlds.rich().go("face 0 31 0");
        Due.that("the first and the fourth came: the second is BAD, the third STATE, the fifth outside",
            Worlds.look(refused.is(-5, "told 5 0").is(5, "count 0")).equals(
                Worlds.look(come.go("face 12 44 5").is(-5, "told 5 0").is(5, "count 0"))));
    }

    // ---- what is asked

    /** Each call that asks, with numbers that are allowed in the rich and in the full world. */
    private static final String[] ASKING = {"count 0", "asks 2 399 49 390 8", "told 1 5", "causeTold 2 0", "at 40 0 0",
        "at 7 1 2", "red 0 4", "red 2 1", "row 40 0", "row 9 1", "row 40 2", "dies 1", "line 0", "line 2", "stops 0 0 4",
        "stops 1 119 4", "stops 2 200 4", "stops 0 310 1", "best 0 0", "best 1 1", "latest 0 1", "latest 1 2", "adds 0 1",
        "adds 2 0", "turn 1 0", "turn 1 1", "stares 0", "stares 2", "where 0 0", "where 1 1", "change 0", "change 1",
        "shade 1 0", "shade 3 1", "shade 6 1", "sets 0 400", "needs 0", "needs 1", "asked 90 3", "guilty 0 100300 3 1",
        "judge 0 0", "whose 0", "whose 1", "began 1 0 400", "through 0 0 40039", "kinds 0 0 0", "kinds 1 2 1", "laws 0 1",
        "drawn 7 400", "drawn 99999 30", "odds 3 20 90 1", "odds 99999 20 400 10", "taken 8 0", "taken 9 6", "taken 6 6"};

    private static void askingChangesNothing() {
        for (String call : ASKING) {
            Due.part("what is asked changes nothing");
            Run x = Worlds.rich();
            long first = x.ask(call);
            Due.is(call + " again", first, x.ask(call));
            Due.that(call, RICH.equals(Worlds.look(x)));
            Run y = Worlds.full();
            y.ask(call);
            Due.that(call + " where all is full", FULL.equals(Worlds.look(y)));
        }
    }

    /** Whatever has been asked ahead of it, each call answers as if it were the first. */
    private static void askingLeavesNothingBehind() {
        Due.part("what is thought of is thought of once");
        long[] alone = new long[ASKING.length];
        for (int i = 0; i < alone.length; i++) {
            alone[i] = Worlds.rich().ask(ASKING[i]);
        }
        for (String ahead : ASKING) {
            Run x = Worlds.rich();
            for (int i = 0; i < alone.length; i++) {
                x.ask(ahead);
                Due.is(ASKING[i] + " behind " + ahead, alone[i], x.ask(ASKING[i]));
            }
        }
        String pass = Worlds.look(Worlds.rich().go("pass 9", "film 1 0 3"));
        for (String ahead : ASKING) {
            Run x = Worlds.rich();
            x.ask(ahead);
            x.go("pass 9");
            x.ask(ahead);
            Due.that("SECONDS pass as ever behind " + ahead, pass.equals(Worlds.look(x.go("film 1 0 3"))));
        }
    }
}
