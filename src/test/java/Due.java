/** Counts the answers that are not as due, and tells each; shared by all tests. */
final class Due {
    private static int wrong = 0;
    private static int asked = 0;
    private static String part = "";

    private Due() { }

    static void part(String name) {
        part = name;
    }

    static void is(String call, long want, long got) {
        asked++;
        if (got != want) {
            wrong++;
            if (wrong <= 200) {
                System.out.println(part + ": " + call + " answered " + got + ", due is " + want);
            }
        }
    }

    static void that(String what, boolean holds) {
        is(what, 1, holds ? 1 : 0);
    }

    static int wrong() {
        return wrong;
    }

    static void end() {
        System.out.println(wrong == 0 ? "all " + asked + " answers are as due"
            : wrong + " of " + asked + " answers are not as due");
        if (wrong != 0) {
            System.exit(1);
        }
    }

    /** The text comes on THE TAPE, five bytes a call. */
    static void tape(GoneRed x, String text) {
        for (int i = 0; i < text.length(); i += 5) {
            int n = Math.min(5, text.length() - i);
            int[] b = new int[5];
            for (int k = 0; k < n; k++) {
                b[k] = text.charAt(i + k);
            }
            x.feed(n, b[0], b[1], b[2], b[3], b[4]);
        }
    }

    static int text(GoneRed x, String text) {
        tape(x, text);
        return x.text();
    }

    /** A new object with THE LAW of a text. */
    static GoneRed world(String law) {
        GoneRed x = new GoneRed();
        int t = text(x, law);
        that("the law " + law + " is a text", t >= 0);
        x.force(t);
        return x;
    }
}
