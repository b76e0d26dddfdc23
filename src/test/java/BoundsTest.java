import java.io.IOException;

/**
 * Each sentence of the Terms, quoted, with what must hold on either side of the bound that it names;
 * PromiseBoundsTest has those of the promises. What is due is worked out by hand.
 */
public final class BoundsTest {
    private static final String STILL = Worlds.STILL;

    public static void main(String[] args) throws IOException {
        Doc.read();
        seats();
        faces();
        causes();
        kinds();
        kindsWithSomethingOfTheirOwn();
        whatIsNotToldOfAKind();
        tape();
        tokens();
        grammar();
        ints();
        faultPlaces();
        whereTokensStand();
        faultsByOpenOnes();
        texts();
        names();
        glancesAndMore();
        seconds();
        allAtOnce();
        redAndFelt();
        turningAway();
        pencil();
        sayingIt();
        wish();
        stopDigits();
        oneCauseMore();
        asked();
        drawn();
        lots();
        image();
        sheets();
        refusals();
        calls();
        Doc.allQuoted(0, 0);
        Due.end();
    }

    // ---- seats, faces, causes

    private static void seats() {
        Doc.terms("======== 1 SEATS 0 .. 7: how LIGHT (0 .. 9; 0 at first).");
        Run x = new Run();
        for (int s = 0; s < 8; s++) {
            x.is(0, "lamp " + s + " 9").is(9, "lamp " + s + " 9", "lamp " + s + " 0").is(0, "lamp " + s + " 0");
        }
        x.is(-5, "lamp -1 0", "lamp 8 0").is(-7, "lamp 0 -1", "lamp 0 10", "lamp 7 10", "lamp 7 -1");
        x.is(-2, "face 0 0 -1", "face 0 0 8").is(0, "face 0 0 0").is(1, "face 0 0 7");
    }

    private static void faces() {
        Doc.terms("FACES are numbered from 0 on, 5 at most: of a KIND, with MORE (0 .. 9), WARMTH (0 .. 400), each "
            + "in a SEAT of its own.");
        Run x = new Run();
        x.is(-2, "face 0 -1 0", "face 0 401 0", "face -1 0 0", "face 60 0 0");
        x.is(0, "face 0 0 0").is(1, "face 59 400 7").is(2, "face 9 399 1").is(3, "face 50 1 2");
        x.is(-3, "face 0 0 0", "face 0 0 7", "face 0 0 2").is(4, "count 0");
        x.is(4, "face 10 0 3").is(-4, "face 0 0 4").is(5, "count 0");
        x.is(0, "told 0 0", "told 0 2", "told 0 3", "told 2 2", "told 3 3").is(400, "told 1 0");
        x.is(9, "told 1 3", "told 2 3").is(5, "told 1 2", "told 3 2").is(1, "told 4 2").is(-5, "told 5 0");
        x.is(0, "warm 4 400").is(400, "warm 4 0").is(-7, "warm 4 401", "warm 4 -1");
        x.is(3, "sit 4 0").is(3, "told 0 1").is(0, "told 4 1");
    }

    private static void causes() {
        Doc.terms("CAUSES are numbered from 0 on, 8 at most: in a SECOND (0 .. 39), of a FACE, so MUCH (0 .. 400).");
        Run x = Run.by(STILL).is(-5, "cause 0 0 0").go("face 0 0 0", "face 0 0 1");
        x.is(-7, "cause -1 0 0", "cause 40 0 0", "cause 0 0 -1", "cause 0 0 401").is(-5, "cause 0 2 0", "cause 0 -1 0");
        x.is(0, "cause 0 0 400").is(1, "cause 39 1 400");
        x.is(0, "at 0 0 0").is(400, "at 1 0 0").is(0, "at 39 1 0").is(400, "at 40 1 0");
        for (int k = 2; k < 8; k++) {
            x.is(k, "cause 20 0 0");
        }
        x.is(-4, "cause 20 0 0").is(8, "count 1").is(-5, "causeTold 8 0", "causeTold -1 0").is(20, "causeTold 7 0");
        x.is(7, "uncause").is(7, "cause 39 1 1").is(-4, "cause 0 0 0").is(39, "causeTold 7 0");
    }

    // ---- kinds

    /** How warm one is behind one SECOND. */
    private static void next(String law, int kindMore, int warm, long want) {
        Run.by(law).go("face " + kindMore + " " + warm + " 0").is(want, "at 1 0 0");
    }

    private static void redFrom(int kindMore, int light, int want) {
        Run x = Run.by(STILL).go("face " + kindMore + " " + want + " 3", "lamp 3 " + light);
        x.is(want, "told 0 5").is(1, "at 0 0 1", "row 0 0").go("warm 0 " + (want - 1)).is(0, "at 0 0 1", "row 0 0");
    }

    private static void kinds() {
        Doc.terms("KINDS: how much one WARMS, the text saying so much, being RED or not; how much one COOLS, the "
            + "text saying so much, WARMTH being w; from which WARMTH on one is RED, its SEAT being so LIGHT.");
        next("warms 99;cools 0;looks 0;", 0, 59, 158);
        next("warms 0;cools 99;looks 0;", 0, 99, 0);
        Doc.terms("0 FACE: that; that; 60 less 4 times LIGHT.");
        next("warms 7;cools 0;looks 0;", 9, 60, 67);
        next("warms 7;cools 0;looks 0;", 9, 59, 66);
        next("warms 0;cools 7;looks 0;", 9, 60, 53);
        redFrom(0, 0, 60);
        redFrom(9, 1, 56);
        redFrom(0, 9, 24);
        Doc.terms("1 SHY (a FACE): WARMS twice as much, if it is RED.");
        next("warms 99;cools 0;looks 0;", 19, 59, 158);
        next("warms 99;cools 0;looks 0;", 19, 60, 258);
        Run shy = Run.by("warms 7;cools 0;looks 0;").go("face 10 55 2", "lamp 2 1");
        shy.is(62, "at 1 0 0").is(76, "at 2 0 0").go("lamp 2 2").is(69, "at 1 0 0");
        Doc.terms("2 DARK (a FACE): RED 10 times MORE later.");
        redFrom(20, 0, 60);
        redFrom(21, 0, 70);
        redFrom(29, 0, 150);
        redFrom(29, 9, 114);
    }

    private static void kindsWithSomethingOfTheirOwn() {
        Doc.terms("3 RUNAWAY (a SHY): WARMS MORE more; COOLS half (cut), if w is above 200.");
        next("warms 5;cools 0;looks 0;", 30, 59, 64);
        next("warms 5;cools 0;looks 0;", 39, 59, 73);
        next("warms 5;cools 0;looks 0;", 39, 60, 79);
        next("warms 99;cools 0;looks 0;", 39, 60, 267);
        next("warms 0;cools 7;looks 0;", 30, 200, 193);
        next("warms 0;cools 7;looks 0;", 30, 201, 198);
        next("warms 0;cools 1;looks 0;", 30, 201, 201);
        next("warms 0;cools 99;looks 0;", 30, 400, 351);
        Doc.terms("4 BEARD (a DARK): RED 20 later than a DARK would be in half (cut) as much LIGHT.");
        redFrom(40, 0, 80);
        redFrom(40, 1, 80);
        redFrom(40, 2, 76);
        redFrom(40, 9, 64);
        redFrom(49, 0, 170);
        redFrom(49, 9, 154);
        Doc.terms("5 WINED (a FACE): WARMS half (cut), and 1; COOLS 0, if w is below 10 times MORE.");
        next("warms 0;cools 0;looks 0;", 50, 30, 31);
        next("warms 1;cools 0;looks 0;", 50, 30, 31);
        next("warms 2;cools 0;looks 0;", 50, 30, 32);
        next("warms 99;cools 0;looks 0;", 50, 60, 110);
        next("warms 0;cools 5;looks 0;", 53, 29, 30);
        next("warms 0;cools 5;looks 0;", 53, 30, 26);
        next("warms 0;cools 5;looks 0;", 50, 0, 0);
        next("warms 0;cools 5;looks 0;", 59, 89, 90);
        next("warms 0;cools 5;looks 0;", 59, 90, 86);
    }

    private static void whatIsNotToldOfAKind() {
        Doc.terms("(Whatever isn't told is as of the KIND above; from 1 on at the earliest.)");
        for (int kind = 0; kind < 6; kind++) {
            boolean dark = kind == 2 || kind == 4;
            redFrom(10 * kind + 2, 3, kind == 4 ? 60 - 4 + 20 + 20 : dark ? 60 - 12 + 20 : 60 - 12);
            next("warms 9;cools 0;looks 0;", 10 * kind, 300, new int[] {309, 318, 309, 318, 309, 305}[kind]);
            next("warms 0;cools 9;looks 0;", 10 * kind, 150, kind == 5 ? 142 : 141);
            next("warms 0;cools 9;looks 0;", 10 * kind, 300, new int[] {291, 291, 291, 296, 291, 292}[kind]);
        }
        // 24 is the least that any KIND, MORE, LIGHT make of it
        for (int kindMore = 0; kindMore < 60; kindMore += 3) {
            Run x = new Run().go("face " + kindMore + " 0 0", "lamp 0 9");
            Due.that("24 at the earliest", x.ask("told 0 5") >= 24);
        }
    }

    // ---- texts

    private static void tape() {
        Doc.terms("A TEXT is read from THE TAPE (160 bytes at most).");
        String text = "warms 12;cools 34;looks 1;";
        Run x = new Run().tape(" ".repeat(160 - text.length()) + text).is(160, "count 4");
        x.is(-4, "feed 1 32 0 0 0 0", "feed 5 32 32 32 32 32").is(160, "count 4").is(1, "text").is(0, "count 4");
        x.go("force 1").is(12, "asks 0 0 0 0 0").is(34, "asks 1 0 0 0 0").is(1, "asks 2 0 0 0 0");
        x.tape(" ".repeat(156)).is(-4, "feed 5 32 32 32 32 32").is(160, "feed 4 32 32 32 32 0").is(-260, "text");
        x.tape(" ".repeat(159) + "@").is(-259, "text");
    }

    /** A bar marks where the FAULT is; without one the text is right. */
    private static void read(String marked) {
        int bar = marked.indexOf('|');
        String text = bar < 0 ? marked : marked.substring(0, bar) + marked.substring(bar + 1);
        Due.is(marked, bar < 0 ? 1 : -100 - bar, new Run().text(text));
    }

    /** The same with an E, as what warms says. */
    private static void readE(String... marked) {
        for (String e : marked) {
            read("warms " + e + ";cools 1;looks 1;");
        }
    }

    /** Which bytes are letters, digits, SIGNS, blanks: each of 256 behind a WORD, and behind a NUMBER. */
    private static void tokens() {
        Doc.terms("TOKENS, each as long as can be: WORDS (as many letters a .. z as stand there), NUMBERS (as many "
            + "digits as stand there; more than 4 are too long), SIGNS ( ) ; + - * < = ; blanks (32, 10) may stand "
            + "between.");
        for (int b = 0; b < 256; b++) {
            boolean blank = b == 32 || b == 10;
            boolean joint = "+-*<=;".indexOf(b) >= 0;
            boolean letter = b >= 'a' && b <= 'z';
            boolean digit = b >= '0' && b <= '9';
            // a joint may stand, and then the ; behind it may not
            long behindWord = blank ? 1 : letter ? -106 : joint ? -111 : -110;
            long behindNumber = blank || digit ? 1 : joint ? -108 : -107;
            Due.is("byte " + b + " behind a WORD", behindWord, new Run()
                .text("warms seen" + (char) b + ";cools 1;looks 1;"));
            Due.is("byte " + b + " behind a NUMBER", behindNumber, new Run()
                .text("warms 1" + (char) b + ";cools 1;looks 1;"));
        }
        readE("0", "9999", "0000", "|00000", "|10000", "|99999", "1 |2", "12 |34", "|123456789", "1234 |5");
        readE("1or 2", "1and 2", "1or2", "not(1)", "(1)and(1)", "not 1", "|notseen", "|seenor 1", "seen|1");
        readE("\n1\n", "  1  ", "( 1 )", "- 1", "-1", "--1", "1--1", "1<-1", "1\n+\n1");
        read("warms1;cools1;looks1;");
        read("|warmsseen;cools1;looks1;");
        read("\n \nwarms 1;cools 1;looks 1;\n \n");
        says("second+07", 28);
    }

    /** An E says so: of WARMTH 123, 3 glances, LIGHT 7, SECOND 21, seen, MORE 8. */
    private static void says(String e, int want) {
        Run.by("warms 1;cools 1;looks(" + e + ")=" + want + ";").is(1, "asks 2 123 37 211 8");
    }

    private static void grammar() {
        Doc.terms("TEXT: warms E ; cools E ; looks E ; E: AND { or AND }. AND: NOT { and NOT }. NOT: not NOT, or "
            + "SUM, perhaps < or = and a SUM. SUM: TERM { + or - TERM }. TERM: ONE { * ONE }. ONE: a NUMBER, a "
            + "NAME, - ONE, ( E ).");
        readE("1 or 1 or 1 and 1 and 1", "not 1 < 1 and not 1 = 1", "1 < 2 |< 3", "1 = 2 |= 3", "1 < 2 |= 3", "1 = 2 |< 3");
        readE("(1 < 2) < 3", "1 or |or 1", "1 and |and 1", "|or 1", "|and 1", "1 < |not 1", "1 + |not 1", "- |not 1",
            "1 * |* 1");
        readE("1 + |+ 1", "1 - - 1", "1 + - 1", "1 * - 1", "1 - |* 1", "|* 1", "|+ 1", "|< 1", "|= 1", "|)", "(|)", "(1|",
            "1|)");
        readE("1 |(1)", "(1) |1", "1 |not 1", "warmth |seen", "1 or|", "1 <|", "1 +|", "not|", "-|", "|");
        says("1+2*3", 7);
        says("10-3-2", 5);
        says("10-3+2", 9);
        says("2-3*2+5", 1);
        says("1 or 0 and 0", 1);
        says("0 and 0 or 1", 1);
        says("not 0 and 0", 0);
        says("not 1=0", 1);
        says("not 2<1+1", 1);
        says("not not 3", 1);
        says("-2*-3", 6);
        says("1<2 or 0", 1);
        Doc.terms("NAMES: warmth glances light second seen more.");
        says("warmth", 123);
        says("glances", 3);
        says("light", 7);
        says("second", 21);
        says("seen", 1);
        says("more", 8);
        readE("|xarmth", "|xlances", "|xight", "|xecond", "|xeen", "|xore", "1 |xr 1", "1 |xnd 1", "|xot 1");
        readE("|warmtx", "|glancex", "|lighx", "|seconx", "|seex", "|morx", "1 |ox 1", "1 |anx 1", "|nox 1");
        readE("|warm", "|warmths", "|glance", "|lights", "|seconds", "|see", "|mor", "|warms", "|cools", "|looks");
    }

    private static void ints() {
        Doc.terms("An E is an int (32 bits, wrapping): of or, and, not, <, = 1 or 0 (what is not 0 is true).");
        // 8192 * 8192 * 32 is 2 to the 31st: the least int; twice that is 0
        says("8192*8192*32<0", 1);
        says("0<8192*8192*32-1", 1);
        says("8192*8192*32-1+1=8192*8192*32", 1);
        says("-(8192*8192*32)=8192*8192*32", 1);
        says("8192*8192*32<1", 1);
        says("8192*8192*32-1<-1", 0);
        says("8192*8192*64", 0);
        says("8192*8192*64+7", 7);
        says("8192*8192*64 or 0", 0);
        says("8192*8192*64 and 1", 0);
        says("not(8192*8192*64)", 1);
        says("8192*8192*32 and 1", 1);
        says("4096*4096*256+5", 5);
        says("9999*9999*43=4172*1000+747", 1);
        says("3 and 5", 1);
        says("2 and 1", 1);
        says("4 or 2", 1);
        says("0 or 0-3", 1);
        says("0-1 and 0-2", 1);
        says("0 or 0", 0);
        says("5 and 0", 0);
        says("not 5", 0);
        says("not -5", 0);
        says("not 0", 1);
        says("2<3", 1);
        says("3<3", 0);
        says("3=3", 1);
        says("3=4", 0);
        says("-1<0", 1);
        Run.by("warms 8192*8192*32-1;cools 8192*8192*32;looks 8192*8192*64;")
            .is(99, "asks 0 0 0 0 0").is(0, "asks 1 0 0 0 0", "asks 2 0 0 0 0");
        Run.by("warms 8192*8192*32;cools 8192*8192*32-1;looks 8192*8192*32;")
            .is(0, "asks 0 0 0 0 0").is(99, "asks 1 0 0 0 0").is(1, "asks 2 0 0 0 0");
    }

    private static void faultPlaces() {
        Doc.terms("FAULT: the place of the first byte of the first TOKEN that can't stand there (the text's size, "
            + "if it ends too early), also of a byte that begins none, of a WORD that is neither KEY nor NAME, a "
            + "NUMBER that is too long, a ( , a not, a - ahead of a ONE while 5 of these are open (a ( till its ) , "
            + "not and - till what they belong to ends).");
        for (String early : new String[] {"", " ", "warms", "warms ", "warms 1", "warms 1 ", "warms 1;", "warms 1;cools",
            "warms 1;cools 1;looks 1", "warms 1;cools 1;looks 1 \n ", "warms (1", "warms not", "warms -"}) {
            read(early + "|");
        }
        read("|@");
        read("  |@");
        read("|warm 1;cools 1;looks 1;");
        read("|cools 1;warms 1;looks 1;");
        read("warms 1;|looks 1;cools 1;");
        read("warms 1;cools 1;|warms 1;");
        read("warms 1;cools 1;looks 1;|;");
        read("warms 1;cools 1;looks 1;|x");
        read("warms 1;cools 1;looks 1; |12345");
        read("warms 1 |1 @ 12345 foo");
        read("warms |@ @");
        read("warms |foo bar");
        read("warms |12345 123456");
        read("warms |" + (char) 255);
        read("warms |" + (char) 0);
        readE("1 + |foo", "|foo + 1", "|12345 + foo", "1 |@");
    }

    /** Each TOKEN in each place of a TEXT that takes some and not others. */
    private static void whereTokensStand() {
        Doc.terms("the place of the first byte of the first TOKEN that can't stand there");
        String tokens = " warms cools looks or and not warmth glances light second seen more 7 ( ) ; + - * < = ";
        for (String token : tokens.trim().split(" ")) {
            boolean one = " not warmth glances light second seen more 7 ( - ".contains(" " + token + " ");
            boolean joint = " or and + - * < = ; ".contains(" " + token + " ");
            // what may stand is followed by one that may not
            read("warms " + (one ? token + " |)" : "|" + token) + " 1;cools 1;looks 1;");
            read("warms 1 " + (joint ? token + " |)" : "|" + token) + " 1;cools 1;looks 1;");
            read(token.equals("warms") ? "warms |)" : "|" + token + " 1;cools 1;looks 1;");
            read("warms 1;" + (token.equals("cools") ? "cools |)" : "|" + token) + " 1;looks 1;");
            read("warms 1;cools 1;" + (token.equals("looks") ? "looks |)" : "|" + token) + " 1;");
            read("warms 1;cools 1;looks 1;|" + token);
        }
    }

    private static void faultsByOpenOnes() {
        Doc.terms("a ( , a not, a - ahead of a ONE while 5 of these are open (a ( till its ) , not and - till what "
            + "they belong to ends)");
        readE("(((((1)))))", "(((((|(1))))))", "not not not not not 1", "not not not not not |not 1", "- - - - - 1",
            "- - - - - |- 1", "(((((|not 1)))))", "(((((|- 1)))))", "not not not not not |(1)", "not not not not not |- 1",
            "- - - - - |(1)", "not (not (- 1))", "not (not (- |(1)))", "not (not (- |- 1))", "(not (not not 1))",
            "(not (not not |not 1))", "(not (- (1)))", "(not (- (|- 1)))");
        // what is between two ONES opens nothing
        readE("(((((1 - 1)))))", "(((((1 - |- 1)))))", "((((- 1 - - 1))))", "not not not not not 1 - 1 < 1 - 1");
        // a ( is open till its ), not and - till what they belong to ends
        readE("(((((1)))))+(((((1)))))", "(((((1)+1))))", "(((((1)+(1)))))", "((((1)+((1)))))",
            "(((((1)+(|(1))))))", "- - - - - 1 + - - - - - 1", "not not not not not 1 and not not not not not 1",
            "not not not not not 1 and not not not not not |not 1", "not not not not not 1 < |- 1",
            "not not not not not 1 = 1 + |(1)", "not not not not not 1 or (((((1)))))", "- - - - - 1 * (((((1)))))",
            "- - - - (1 + 1) * (1)", "not - - - - 1 < - - - - 1", "not - - - - 1 < - - - - |- 1");
    }

    private static void texts() {
        Doc.terms("TEXTS are numbered from 0 on, 6 at most; TEXT 0, at first, and THE LAW: warms glances * 4 + seen "
            + "* 3 ; cools 3 ; looks seen or second < more ; (warms, cools 0 .. 99, else the bound; looks: not 0).");
        Run x = new Run().is(1, "count 2").is(0, "count 3").is(-2, "force 1", "force -1").is(0, "force 0");
        x.is(19, "asks 0 400 49 401 9").is(16, "asks 0 400 49 400 9").is(3, "asks 0 0 0 1 0").is(0, "asks 0 0 9 0 0");
        x.is(3, "asks 1 0 0 0 0", "asks 1 400 49 401 9");
        x.is(1, "asks 2 0 0 401 0", "asks 2 0 0 80 9", "asks 2 0 0 0 1").is(0, "asks 2 0 0 90 9", "asks 2 0 0 0 0");
        for (int t = 1; t < 6; t++) {
            Due.is("number of a TEXT", t, x.text("warms " + t + ";cools 0;looks 0;"));
        }
        x.tape(STILL).is(-4, "text").is(6, "count 2").is(-2, "force 6").is(0, "force 5").is(5, "asks 0 0 0 0 0");
        Run y = Run.by("warms warmth-10;cools warmth-200;looks warmth-100;");
        y.is(0, "asks 0 0 0 0 0", "asks 0 9 0 0 0", "asks 0 10 0 0 0").is(1, "asks 0 11 0 0 0").is(98, "asks 0 108 0 0 0");
        y.is(99, "asks 0 109 0 0 0", "asks 0 110 0 0 0", "asks 0 400 0 0 0");
        y.is(0, "asks 1 0 0 0 0", "asks 1 199 0 0 0", "asks 1 200 0 0 0").is(1, "asks 1 201 0 0 0");
        y.is(99, "asks 1 299 0 0 0", "asks 1 300 0 0 0", "asks 1 400 0 0 0");
        y.is(1, "asks 2 99 0 0 0", "asks 2 101 0 0 0", "asks 2 0 0 0 0").is(0, "asks 2 100 0 0 0");
    }

    private static void names() {
        Doc.terms("Of a FACE in a SECOND: warmth: WARMTH as it begins; light: of its SEAT; second; seen: 1, if it "
            + "is RED as it begins, else 0;");
        Run.by("warms warmth;cools 0;looks 0;").go("face 0 1 0", "cause 2 0 1").is(2, "at 1 0 0").is(9, "at 3 0 0")
            .is(18, "at 4 0 0");
        Run.by("warms light;cools 0;looks 0;").go("face 0 0 7", "face 0 0 0", "lamp 7 9", "lamp 1 5").is(9, "at 1 0 0")
            .is(0, "at 1 1 0").is(18, "at 2 0 0");
        Run.by("warms second;cools 0;looks 0;").go("face 0 0 0").is(0, "at 1 0 0").is(1, "at 2 0 0").is(45, "at 10 0 0");
        Run.by("warms second*(38<second);cools 0;looks 0;").go("face 0 0 0").is(0, "at 39 0 0").is(39, "at 40 0 0");
        Run.by("warms 1+seen*5;cools seen*2;looks 0;").go("face 0 59 0").is(60, "at 1 0 0").is(64, "at 2 0 0")
            .go("warm 0 60").is(64, "at 1 0 0").go("lamp 0 1", "warm 0 55").is(56, "at 1 0 0").is(60, "at 2 0 0");
    }

    private static void glancesAndMore() {
        Doc.terms("glances: of looks how many LOOKED at it in the SECOND ahead (in SECOND 0: 0), of warms, cools in "
            + "this one;");
        String[] crowd = {"face 0 0 0", "face 0 0 1", "face 0 0 2", "face 0 0 3", "face 0 0 4"};
        Run.by("warms 0;cools 0;looks glances=0;").go(crowd).is(4, "at 1 0 2", "at 3 4 2").is(0, "at 2 0 2", "at 4 4 2");
        Run.by("warms 0;cools 0;looks glances;").go(crowd).is(0, "at 1 0 2", "at 40 0 2");
        Run.by("warms 0;cools 0;looks glances=4 or second=0;").go(crowd).is(4, "at 1 0 2", "at 2 0 2", "at 40 4 2");
        Run.by("warms glances*10;cools glances;looks second=3;").go(crowd).is(0, "at 3 0 0").is(36, "at 4 0 0", "at 9 0 0");
        Run.by("warms 0;cools glances*5;looks second=0;").go(crowd).go("warm 0 90").is(70, "at 1 0 0", "at 2 0 0");
        Doc.terms("more: of looks that of the one who would look, else its own.");
        Run x = Run.by("warms more;cools (more=9)*2;looks more=4;").go("face 4 0 0", "face 0 0 1", "face 9 20 2");
        x.is(0, "at 1 0 2").is(1, "at 1 1 2", "at 1 2 2").is(4, "at 1 0 0").is(0, "at 1 1 0").is(27, "at 1 2 0");
    }

    // ---- seconds

    private static void seconds() {
        Doc.terms("======== 2 SECONDS 0 .. 39 of all FACES, in thought, from WARMTH as it is.");
        Run x = Run.by("warms 1;cools 0;looks 0;").go("face 0 5 0", "face 0 7 1");
        x.is(5, "at 0 0 0").is(6, "at 1 0 0").is(45, "at 40 0 0").is(47, "at 40 1 0").is(-5, "at 41 0 0", "at -1 0 0");
        x.is(5, "told 0 0").go("warm 0 9").is(49, "at 40 0 0");
        Run.by("warms second=0;cools 0;looks 0;").go("face 0 0 0").is(1, "at 1 0 0", "at 40 0 0");
        Run.by("warms second=39;cools 0;looks 0;").go("face 0 0 0").is(0, "at 39 0 0").is(1, "at 40 0 0");
        Run.by("warms second=40 or second<0;cools 0;looks 0;").go("face 0 0 0").is(0, "at 40 0 0");
    }

    private static void allAtOnce() {
        Doc.terms("In each: of each FACE how many others LOOK at it (looks says so); then, all at once: it is as "
            + "much warmer as it WARMS, and as its CAUSES of that SECOND are, together; as much less as it COOLS (0 "
            + ".. 400, else the bound).");
        Run.by("warms 0;cools 0;looks 1;").go("face 0 0 0").is(0, "at 1 0 2").go("face 0 0 1").is(1, "at 1 0 2", "at 1 1 2")
            .go("face 0 0 2", "face 0 0 3", "face 0 0 4").is(4, "at 1 0 2", "at 40 4 2").is(0, "at 0 0 2");
        Run x = Run.by("warms 10;cools 7;looks 0;").go("face 0 0 0", "face 0 0 1", "cause 5 0 10", "cause 5 0 20");
        x.go("cause 5 1 100", "cause 6 0 1").is(15, "at 5 0 0").is(48, "at 6 0 0").is(52, "at 7 0 0").is(118, "at 6 1 0");
        Run y = Run.by("warms 10;cools 7;looks 0;").go("face 0 396 0").is(399, "at 1 0 0").go("warm 0 397")
            .is(400, "at 1 0 0");
        y.go("warm 0 398").is(400, "at 1 0 0", "at 40 0 0").go("warm 0 0", "cause 0 0 397").is(400, "at 1 0 0");
        y.go("cause 0 0 400", "cause 0 0 400", "warm 0 400").is(400, "at 1 0 0").go("uncause", "uncause", "uncause");
        y.go("cause 39 0 400", "warm 0 0").is(117, "at 39 0 0").is(400, "at 40 0 0");
        Run z = Run.by("warms 3;cools 10;looks 0;").go("face 0 8 0").is(1, "at 1 0 0").is(0, "at 2 0 0", "at 40 0 0");
        z.go("warm 0 7").is(0, "at 1 0 0").go("warm 0 6").is(0, "at 1 0 0").go("cause 0 0 2").is(1, "at 1 0 0");
        Run.by("warms 99;cools 99;looks 0;").go("face 0 399 0").is(399, "at 1 0 0").go("warm 0 1").is(1, "at 40 0 0");
    }

    private static void redAndFelt() {
        Doc.terms("RED: WARMTH is that from which on it is, or more.");
        Run x = Run.by(STILL).go("face 0 60 0").is(1, "at 0 0 1", "row 0 0").go("warm 0 59").is(0, "at 0 0 1", "row 0 0");
        x.go("warm 0 61").is(1, "at 0 0 1").go("warm 0 400").is(1, "at 0 0 1");
        Doc.terms("RED BEHIND a SECOND: by WARMTH as it is then.");
        Run y = Run.by("warms second=39;cools 0;looks 0;").go("face 0 59 0").is(1, "red 0 1").is(39, "red 0 2", "red 0 3");
        y.is(0, "at 39 0 1").is(1, "at 40 0 1", "dies 0");
        Run z = Run.by("warms 0;cools 1;looks 0;").go("face 0 60 0").is(0, "red 0 1", "dies 0").is(-1, "red 0 2", "red 0 3");
        z.is(1, "at 0 0 1").go("warm 0 61").is(1, "red 0 1").is(0, "red 0 2", "red 0 3");
        Doc.terms("FELT: WARMTH behind each of the 40 SECONDS, together.");
        Run.by(STILL).go("face 0 400 0").is(16000, "red 0 4").go("warm 0 1").is(40, "red 0 4").go("warm 0 0")
            .is(0, "red 0 4");
        Run.by("warms 0;cools 99;looks 0;").go("face 0 99 0").is(0, "red 0 4").go("cause 39 0 100").is(1, "red 0 4");
    }

    // ---- what stops it

    /** Of the SECONDS in which only k counts: whether a stop at 5 tells in SECOND k, by the most WARMTH then. */
    private static void tells(String law, String k, int kindMore, int warm, String stop, int want) {
        Run x = Run.by(law.replace("#", k)).go("face " + kindMore + " " + warm + " 0", "face 0 0 1", "face 0 0 2");
        x.is(want, "stops 0 " + stop);
    }

    private static void turningAway() {
        Doc.terms("ONE STOPS it, doing something in a SECOND at (0 .. 19): 0 TURNING AWAY: in SECONDS at .. at and "
            + "9 nobody LOOKS at it.");
        String law = "warms glances*(second=#);cools 0;looks 1;";
        tells(law, "4", 0, 0, "5 0", 2);
        tells(law, "5", 0, 0, "5 0", 0);
        tells(law, "14", 0, 0, "5 0", 0);
        tells(law, "15", 0, 0, "5 0", 2);
        tells(law, "0", 0, 0, "0 0", 0);
        tells(law, "9", 0, 0, "0 0", 0);
        tells(law, "10", 0, 0, "0 0", 2);
        tells(law, "18", 0, 0, "19 0", 2);
        tells(law, "19", 0, 0, "19 0", 0);
        tells(law, "28", 0, 0, "19 0", 0);
        tells(law, "29", 0, 0, "19 0", 2);
        // whoever is not looked at then is so behind it, too, where looks go by glances
        tells("warms glances;cools 0;looks second=0 or glances;", "", 0, 0, "3 0", 6);
        Run x = Run.by("warms glances;cools 0;looks 1;").go("face 0 0 0", "face 0 0 1")
            .is(30, "stops 0 0 0", "stops 1 19 0");
        x.is(-7, "stops 0 20 0", "stops 0 -1 0").is(40, "red 0 0");
    }

    private static void pencil() {
        Doc.terms("1 A PENCIL: in SECONDS at .. at and 4 it COOLS 15 more.");
        Run x = Run.by(STILL).go("face 0 400 0");
        x.is(385 + 370 + 355 + 340 + 36 * 325, "stops 0 100 4");
        x.is(5 * 400 + 385 + 370 + 355 + 340 + 31 * 325, "stops 0 105 4");
        x.is(19 * 400 + 385 + 370 + 355 + 340 + 17 * 325, "stops 0 119 4").is(-7, "stops 0 120 4", "stops 0 99 4");
        String law = "warms 15*(second=#);cools 0;looks 0;";
        tells(law, "4", 0, 0, "105 0", 15);
        tells(law, "5", 0, 0, "105 0", 0);
        tells(law, "9", 0, 0, "105 0", 0);
        tells(law, "10", 0, 0, "105 0", 15);
        // 15 more than its KIND: past 99, of a WINED one that COOLS 0, of a RUNAWAY that COOLS half
        Run.by("warms 0;cools 99;looks 0;").go("face 0 400 0").is(286 + 172 + 58, "stops 0 100 4");
        Run.by(STILL).go("face 59 50 0").is(36 + 22 + 8 + 35 * 36 / 2, "stops 0 100 4");
        Run.by("warms 0;cools 10;looks 0;").go("face 30 300 0")
            .is(280 + 260 + 240 + 220 + 200 + 1900, "stops 0 100 4");
    }

    private static void sayingIt() {
        Doc.terms("2 SAYING IT: in SECOND at it is 30 warmer, as by a CAUSE; in that SECOND, too, and from then on "
            + "it WARMS half (cut) as much.");
        Run x = Run.by("warms 5;cools 0;looks 0;").go("face 0 0 0");
        x.is(30 + 40 * 2, "stops 0 200 0").is(3 * 5 + 30 + 37 * 2, "stops 0 203 0")
            .is(19 * 5 + 30 + 21 * 2, "stops 0 219 0");
        x.is(5 + 10 + 15 + 47 + 36 * (49 + 119) / 2, "stops 0 203 4").is(-7, "stops 0 220 0", "stops 0 199 0");
        x.go("cause 7 0 51").is(30 + 80 + 51, "stops 0 200 0");
        String law = "warms 5*(second=#);cools 0;looks 0;";
        tells(law, "4", 0, 0, "205 0", 35);
        tells(law, "5", 0, 0, "205 0", 32);
        tells(law, "39", 0, 0, "205 0", 32);
        // half of all that it WARMS: of a RUNAWAY's MORE, too, and of a WINED one's 1
        Run.by(STILL).go("face 39 0 0").is(30 + 40 * 4, "stops 0 200 0");
        Run.by("warms 1;cools 0;looks 0;").go("face 50 0 0").is(30, "stops 0 200 0").is(30 + 19, "stops 0 219 0");
        Run.by(STILL).go("face 0 371 0").is(400, "stops 0 219 0").is(1, "dies 0");
    }

    private static void wish() {
        Doc.terms("3 A WISH: in SECONDS at .. at and 9 it WARMS twice MORE less (0 at least).");
        String law = "warms 5*(second=#);cools 0;looks 0;";
        tells(law, "4", 1, 0, "305 0", 5);
        tells(law, "5", 1, 0, "305 0", 3);
        tells(law, "14", 1, 0, "305 0", 3);
        tells(law, "15", 1, 0, "305 0", 5);
        tells(law, "28", 1, 0, "319 0", 3);
        tells(law, "29", 1, 0, "319 0", 5);
        tells(law, "0", 2, 0, "300 0", 1);
        tells(law, "0", 3, 0, "300 0", 0);
        tells(law, "0", 9, 0, "300 0", 0);
        tells(law, "0", 0, 0, "300 0", 5);
        Run x = Run.by("warms 5;cools 0;looks 0;").go("face 1 0 0").is(10 * 3 + 30 * 5, "stops 0 300 0", "stops 0 319 0");
        x.is(-7, "stops 0 320 0", "stops 0 299 0");
        // of what a RUNAWAY WARMS, its MORE too; CAUSES are no less
        Run.by("warms 5*(second=2);cools 0;looks 0;").go("face 33 0 0").is(2 + 30 * 3, "stops 0 300 0")
            .go("cause 1 0 7").is(7 + 2 + 30 * 3, "stops 0 300 0");
    }

    private static void stopDigits() {
        Doc.terms("(STOPS as digits: 100 times what it does, and at.)");
        Run x = Run.by("warms 9;cools 0;looks 0;").go("face 1 0 0");
        for (int which = 0; which < 4; which++) {
            x.is(-7, "stops 0 " + (100 * which - 1) + " 0", "stops 0 " + (100 * which + 20) + " 0");
            x.go("stops 0 " + 100 * which + " 0", "stops 0 " + (100 * which + 19) + " 0");
        }
        x.is(360, "stops 0 0 0").is(315, "stops 0 100 0").is(190, "stops 0 200 0").is(340, "stops 0 300 0");
        x.is(-7, "stops 0 400 0", "stops 0 MAX 0", "stops 0 MIN 0");
    }

    // ---- in thought

    private static void oneCauseMore() {
        Doc.terms("ONE CAUSE MORE, in thought, of a FACE, in a SECOND, so MUCH.");
        Run x = Run.by(STILL).go("face 0 0 0", "face 0 0 1");
        for (int k = 0; k < 8; k++) {
            x.go("cause 0 0 1");
        }
        // there is no room for it truly, and in thought it is ninth
        x.is(-4, "cause 0 0 60").is(60, "needs 0", "needs 1").is(1, "asked 52 1").is(3, "asked 60 40").is(8, "count 1");
        x.sheet(0, 2, 8, 8, 8, 8, 8, 8, 8, 28).is(31L << 35, "began 0 0 20").is(8, "count 1", "at 40 0 0");
        x.is(1, "guilty 0 52000 1 0").is(2, "guilty 0 52000 1 1").is(8, "count 1");
    }

    private static void asked() {
        Doc.terms("ASKED by so MUCH: FACE by FACE, each in SECONDS of its own (nobody else is asked then), by ONE "
            + "CAUSE MORE of it in SECOND 0, so MUCH.");
        Run x = Run.by("warms 0;cools (second=0)*99;looks 0;").go("face 0 0 0", "face 0 1 1", "face 0 0 2");
        x.is(0, "asked 157 1").is(2, "asked 158 1").is(7, "asked 159 1", "asked 159 40", "asked 400 40")
            .is(0, "asked 400 0");
        // of those who are asked none LOOKS otherwise at the others: each is as if asked alone
        Run y = Run.by("warms glances*10;cools 0;looks warmth=50;").go("face 0 0 0", "face 0 0 1", "face 0 0 2");
        y.is(0, "asked 50 1").is(7, "asked 50 2").is(0, "asked 49 40");
    }

    /** WARMTH behind SECOND k is 59, and 0 else, but for the LOT: RED is who is drawn for k. */
    private static String onlyIn(int k) {
        return "warms (second=" + k + ")*(59-warmth);cools (not second=" + k + ")*99;looks 0;";
    }

    private static int[] lotsOf(int seed) {
        int[] lots = new int[5];
        long lot = seed + 1L;
        for (int f = 0; f < 5; f++) {
            lot = lot * 48271L % 2147483647L;
            lots[f] = (int) lot;
        }
        return lots;
    }

    private static void drawn() {
        Doc.terms("DRAWN by a SEED (0 .. 99999), so MUCH: for each FACE, by numbers, a LOT: behind SECOND LOT "
            + "modulo 80, if that is below 40, it is so MUCH warmer (400 at most; if it is RED then, it has been).");
        String[] crowd = {"face 0 0 0", "face 0 0 1", "face 0 0 2", "face 0 0 3", "face 0 0 4"};
        int[] seconds = new int[80];
        for (int k = 0; k < 40; k++) {
            Run x = Run.by(onlyIn(k)).go(crowd);
            for (int seed = 0; seed < 120; seed++) {
                int bits = 0;
                for (int f = 0; f < 5; f++) {
                    int second = lotsOf(seed)[f] % 80;
                    bits |= second == k ? 1 << f : 0;
                    seconds[second]++;
                }
                x.is(bits, "drawn " + seed + " 1");
            }
            x.is(0, "drawn 5 0").is(-2, "drawn -1 1", "drawn 100000 1", "drawn 5 -1", "drawn 5 401");
        }
        Due.that("some are drawn for 0, 39, 40, 79", seconds[0] * seconds[39] * seconds[40] * seconds[79] > 0);
        Run still = Run.by(STILL).go(crowd);
        for (int seed = 99900; seed <= 99999; seed++) {
            int bits = 0;
            for (int f = 0; f < 5; f++) {
                bits |= lotsOf(seed)[f] % 80 < 40 ? 1 << f : 0;
            }
            still.is(bits, "drawn " + seed + " 60", "drawn " + seed + " 400").is(0, "drawn " + seed + " 59");
        }
        // that it is 400 at most can't be seen by RED: whoever it holds for is RED by less
        // RED at first is not RED behind a SECOND
        Run.by("warms 0;cools 99;looks 0;").go("face 0 158 0").is(0, "drawn 0 0").go("warm 0 159").is(1, "drawn 0 0");
    }

    private static void lots() {
        Doc.terms("LOTS: the first is (SEED and 1) times 48271 modulo 2147483647, each further one the last times "
            + "48271 modulo 2147483647.");
        // of SEED 0: 48271, 182605794, 1291394886, 1914720637, 2078669041: SECONDS 31, 34, 6, 77, 1
        int[] first = {31, 34, 6, 77, 1};
        // of SEED 99999: 532132706, 525949559, 559487655, 274249833, 1224488635: 66, 39, 55, 73, 75
        int[] last = {66, 39, 55, 73, 75};
        for (int f = 0; f < 5; f++) {
            Due.is("SEED 0", first[f], lotsOf(0)[f] % 80);
            Due.is("SEED 99999", last[f], lotsOf(99999)[f] % 80);
        }
        // fewer FACES have the same LOTS, by numbers
        Run x = Run.by(STILL).go("face 0 0 7").is(1, "drawn 0 60").go("face 0 0 3").is(3, "drawn 0 60")
            .is(2, "drawn 99999 60");
        x.go("face 0 0 4", "face 0 0 5").is(7, "drawn 0 60").go("face 0 0 6").is(23, "drawn 0 60");
    }

    private static void image() {
        Doc.terms("AN IMAGE keeps WARMTH, SEATS of all, LIGHT, CAUSES, how many FACES there are, THE LAW.");
        String[] asked = {"told 0 0", "told 0 1", "told 4 0", "told 4 1", "taken 0 6", "taken 7 6", "causeTold 0 0",
            "causeTold 0 1", "causeTold 0 2", "causeTold 7 0", "count 0", "count 1", "count 3"};
        Run x = Worlds.full();
        long[] was = new long[asked.length];
        for (int i = 0; i < was.length; i++) {
            was[i] = x.ask(asked[i]);
        }
        x.is(5, "image").go("warm 0 400", "warm 4 0", "sit 0 4", "sit 4 0", "lamp 0 0", "lamp 7 1", "force 0", "pass 3");
        for (int k = 8; k > 0; k--) {
            x.is(k - 1, "uncause");
        }
        x.go("cause 39 4 400").is(5, "back");
        for (int i = 0; i < was.length; i++) {
            x.is(was[i], asked[i]);
        }
        // of nothing, too: what came since is none
        Run y = new Run().is(-3, "back").is(0, "image").go("face 0 0 0", "cause 0 0 9", "lamp 3 9").is(0, "back");
        y.is(0, "count 0", "count 1", "lamp 3 0").is(-5, "told 0 0", "causeTold 0 0").is(0, "face 0 0 0");
    }

    private static void sheets() {
        Doc.terms("SHEETS 0 .. 3 are rows of numbers, or missing (as all are at first): of sort 0 bytes, 1 shorts, "
            + "2 ints, 40 at most.");
        Run x = new Run();
        for (int s = 0; s < 4; s++) {
            x.is(-11, "cell " + s + " 0 0", "whose " + s, "facesBy " + s + " 0 0 0");
            for (int sort = 0; sort < 3; sort++) {
                x.is(1, "sheet " + s + " " + sort + " 40", "cell " + s + " 39 1").is(-12, "cell " + s + " 40 1");
                x.is(0, "facesBy " + s + " " + sort + " 0 0").is(-13, "facesBy " + s + " " + (sort + 1) % 3 + " 0 0");
                x.is(-2, "sheet " + s + " " + sort + " 41");
            }
            x.is(1, "sheet " + s + " -1 0").is(-11, "cell " + s + " 0 0");
        }
        x.is(-2, "sheet 4 0 0", "sheet -1 0 0", "sheet 0 3 0", "sheet 0 -2 0", "cell 4 0 0", "cell -1 0 0");
    }

    private static void refusals() {
        Doc.terms("REFUSALS, of several the first one told: NONE there is no such thing; BAD a number is not as "
            + "told; STATE as told; FULL. The host's: -11 nothing there, -12 a place outside, -13 of another sort "
            + "or KIND, -14 a size below 0. They change nothing, but where it is told. What is asked changes "
            + "nothing, but where it is told.");
        // RefusalTest has each refusal, all pairs of them, and that they change nothing
        Due.is("NONE", -1, GoneRed.NONE);
        Due.is("BAD", -2, GoneRed.BAD);
        Due.is("STATE", -3, GoneRed.STATE);
        Due.is("FULL", -4, GoneRed.FULL);
        Due.is("NO", -4611686018427387904L, GoneRed.NO);
        Run x = Worlds.rich();
        x.is(-2, "face 60 401 8").is(-3, "face 0 0 1").is(-7, "cause 40 0 401").is(-5, "cause 40 9 401")
            .is(-14, "sheet 3 0 -1");
        x.is(-13, "copy 0 9 1 9 9").is(-12, "copy 0 9 0 9 9").is(-11, "copy 0 9 3 9 9").is(-2, "copy 0 9 4 9 9");
    }

    private static void calls() {
        Due.part("An object is used for at most 512 calls");
        Run x = Run.by("warms 1;cools 0;looks 0;").go("face 0 0 0");
        while (x.calls() < 511) {
            x.go("sit 0 " + x.calls() % 8);
        }
        x.is(40, "at 40 0 0");
    }
}
