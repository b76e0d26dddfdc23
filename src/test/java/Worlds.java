/** Objects in a state that tests start from, and a look at all that one holds. */
final class Worlds {
    static final String STILL = "warms 0;cools 0;looks 0;";
    private static final String LIVE = "warms glances*4+seen*3;cools 3+light;looks seen or second<more;";
    /** The numbers on SHEETS: look() tells them apart by FACES that are so warm behind 5 SECONDS. */
    private static final int[] TOLD = {61, 72, 83, 94, 105};

    private Worlds() { }

    static Run bare() {
        return new Run();
    }

    // TEXT 1 is STILL in each world that has it, as look() wants it

    /** Some of everything: 3 FACES, 3 CAUSES, 3 TEXTS, an image, half a TEXT on THE TAPE, SHEETS 0 to 2. */
    static Run rich() {
        Run x = new Run();
        x.law(STILL).law(LIVE);
        x.go("face 34 20 1", "face 22 55 3", "lamp 1 5", "lamp 3 2", "lamp 6 9", "cause 3 0 30", "cause 5 1 20", "image");
        x.go("face 57 40 6", "warm 0 26", "sit 1 4", "lamp 6 7", "cause 39 2 400");
        x.sheet(0, 0, 61, 72, 83, 94, 105).sheet(1, 1, 94, 83, 72).sheet(2, 2, 105, 61, 72, 83, 94, 105, 61, 72, 83);
        return x.tape("warms 7;cools 2;lo");
    }

    /** As much of everything as there may be; SHEET 3 is missing. */
    static Run full() {
        Run x = new Run();
        x.text(STILL);
        for (int t = 2; t < 6; t++) {
            x.text("warms " + t + ";cools 1;looks 1;");
        }
        x.go("force 5", "face 9 10 0", "face 18 20 1", "face 27 30 2", "face 36 40 3", "face 55 50 7");
        x.go("lamp 0 9", "lamp 7 9", "image");
        for (int k = 0; k < 8; k++) {
            x.go("cause " + 5 * k + " " + k % 5 + " 10");
        }
        x.sheet(0, 0, 61, 72, 83, 94, 105, 61, 72, 83).sheet(1, 1, 94, 83, 72);
        x.go("sheet 2 2 40", "cell 2 0 72", "cell 2 39 83");
        return x.tape(" ".repeat(160));
    }

    /** All that it answers of what it holds. It is another one behind that: a look is the last that is done. */
    static String look(Run x) {
        StringBuilder all = new StringBuilder();
        add(all, x, "count 2", "count 3", "count 4");
        held(all, x);
        for (int f = 0; f < 5; f++) {
            add(all, x, "red " + f + " 0", "red " + f + " 4");
        }
        add(all, x, "row 3 1", "drawn 7 90");
        for (int s = 0; s < 4; s++) {
            sizeAndSort(all, x, s);
        }
        x.tape(x.ask("count 4") <= 154 ? "oks 1;" : "");
        add(all, x, "text");
        texts(all, x);
        x.go("force 0");
        add(all, x, "back");
        held(all, x);
        add(all, x, "count 3");
        numbers(all, x);
        return all.toString();
    }

    private static void add(StringBuilder all, Run x, String... told) {
        for (String call : told) {
            all.append(call).append(" = ").append(x.ask(call)).append('\n');
        }
    }

    private static void held(StringBuilder all, Run x) {
        add(all, x, "count 0", "count 1");
        for (int f = 0; f < 5; f++) {
            add(all, x, "told " + f + " 0", "told " + f + " 1", "told " + f + " 2", "told " + f + " 3");
        }
        for (int k = 0; k < 8; k++) {
            add(all, x, "causeTold " + k + " 0", "causeTold " + k + " 1", "causeTold " + k + " 2");
        }
        for (int s = 0; s < 8; s++) {
            add(all, x, "taken " + s + " 6");
        }
    }

    private static void sizeAndSort(StringBuilder all, Run x, int s) {
        int low = 0;
        int high = 40;
        while (low < high) {
            int n = (low + high + 1) / 2;
            // all on itself changes nothing
            boolean has = x.ask("copy " + s + " 0 " + s + " 0 " + n) >= 0;
            low = has ? n : low;
            high = has ? high : n - 1;
        }
        all.append("sheet ").append(s).append(" has ").append(low).append('\n');
        add(all, x, "facesBy " + s + " 0 0 0", "facesBy " + s + " 1 0 0", "facesBy " + s + " 2 0 0");
    }

    private static void texts(StringBuilder all, Run x) {
        for (int t = 1; t < 6; t++) {
            add(all, x, "force " + t, "asks 0 30 23 71 9", "asks 1 30 23 71 9", "asks 2 30 23 80 8");
        }
    }

    /** Each number alone, on SHEET 3, is told of the FACES that are so warm. */
    private static void numbers(StringBuilder all, Run x) {
        if (x.ask("count 2") == 1) {
            x.text(STILL);
        }
        x.go("force 1");
        while (x.ask("count 1") > 0) {
            x.go("uncause");
        }
        for (int s = 0; s < 8 && x.ask("count 0") < 5; s++) {
            x.ask("face 0 0 " + s);
        }
        for (int f = 0; f < 5; f++) {
            // by STILL, too, a RUNAWAY and a WINED one are warmer in each SECOND
            x.go("warm " + f + " 0").go("warm " + f + " " + (TOLD[f] - x.ask("at 5 " + f + " 0")));
        }
        for (int s = 0; s < 3; s++) {
            for (int sort = 0; sort < 3; sort++) {
                if (x.ask("facesBy " + s + " " + sort + " 0 0") == 0) {
                    numbersOf(all, x, s, sort);
                }
            }
        }
    }

    private static void numbersOf(StringBuilder all, Run x, int s, int sort) {
        x.go("sheet 3 " + sort + " 1");
        for (int i = 0; i < 10; i++) {
            boolean there = x.ask("copy " + s + " " + (i < 9 ? i : 39) + " 3 0 1") == 1;
            all.append("number ").append(i).append(there ? " = " + x.ask("whose 3") : " is none").append('\n');
        }
    }
}
