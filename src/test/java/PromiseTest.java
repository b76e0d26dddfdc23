/** Each promise with ordinary inputs, its edges and its refusals; what is due is worked out by hand. */
public final class PromiseTest {
    private static final int BAD = -2, STATE = -3, FULL = -4, NO_SUCH = -5, NOT_TOLD = -7, NO_TWO = -100000;
    private static final long NO = -4611686018427387904L;
    private static final int LOW = Integer.MIN_VALUE, HIGH = Integer.MAX_VALUE;

    /** Nothing warms, cools or looks. */
    private static final String STILL = "warms 0; cools 0; looks 0;";
    /** Each is 7 warmer in each SECOND: from 0, RED (from 60 on) behind 9 SECONDS. */
    private static final String SEVEN = "warms 10; cools 3; looks 0;";
    /** Each look makes one 10 warmer; all look always. */
    private static final String TEN_A_LOOK = "warms glances * 10; cools 0; looks 1;";

    public static void main(String[] args) {
        newObject();
        count();
        feed();
        texts();
        faults();
        values();
        force();
        asks();
        faces();
        warm();
        sit();
        lamp();
        told();
        causes();
        uncause();
        causeTold();
        kindsWarmAndCool();
        at();
        looks();
        namesInASecond();
        red();
        row();
        pass();
        dies();
        line();
        stops();
        best();
        latest();
        adds();
        turn();
        stares();
        where();
        change();
        shade();
        sets();
        needs();
        asked();
        guilty();
        judge();
        whose();
        began();
        through();
        kinds();
        laws();
        film();
        drawn();
        odds();
        imageAndBack();
        sheet();
        cell();
        copy();
        facesBy();
        taken();
        Due.end();
    }

    private static void newObject() {
        Due.part("1 a new object");
        GoneRed x = new GoneRed();
        Due.is("count(0)", 0, x.count(0));
        Due.is("count(1)", 0, x.count(1));
        Due.is("count(2)", 1, x.count(2));
        Due.is("count(3)", 0, x.count(3));
        Due.is("count(4)", 0, x.count(4));
        for (int s = 0; s < 8; s++) {
            Due.is("taken of a dark seat", -11, x.taken(s, 6));
            Due.is("lamp(s, 0)", 0, x.lamp(s, 0));
        }
        for (int s = 0; s < 4; s++) {
            Due.is("cell of a missing sheet", -11, x.cell(s, 0, 1));
        }
        Due.is("back()", STATE, x.back());
        Due.is("uncause()", STATE, x.uncause());
    }

    private static void count() {
        Due.part("2 count");
        GoneRed x = new GoneRed();
        x.face(0, 0, 0);
        x.face(0, 0, 1);
        x.cause(0, 0, 1);
        x.cause(0, 0, 1);
        x.cause(0, 0, 1);
        Due.text(x, STILL);
        Due.text(x, STILL);
        Due.text(x, STILL);
        x.force(2);
        Due.tape(x, "warms");
        Due.is("count(0)", 2, x.count(0));
        Due.is("count(1)", 3, x.count(1));
        Due.is("count(2)", 4, x.count(2));
        Due.is("count(3)", 2, x.count(3));
        Due.is("count(4)", 5, x.count(4));
        Due.is("count(-1)", BAD, x.count(-1));
        Due.is("count(5)", BAD, x.count(5));
        Due.is("count(LOW)", BAD, x.count(LOW));
    }

    private static void feed() {
        Due.part("3 feed");
        GoneRed x = new GoneRed();
        Due.is("none", BAD, x.feed(0, 1, 1, 1, 1, 1));
        Due.is("six", BAD, x.feed(6, 1, 1, 1, 1, 1));
        Due.is("a below", BAD, x.feed(1, -1, 1, 1, 1, 1));
        Due.is("a above", BAD, x.feed(1, 256, 1, 1, 1, 1));
        Due.is("b", BAD, x.feed(1, 1, 256, 1, 1, 1));
        Due.is("c", BAD, x.feed(1, 1, 1, -1, 1, 1));
        Due.is("d", BAD, x.feed(1, 1, 1, 1, 256, 1));
        Due.is("e", BAD, x.feed(1, 1, 1, 1, 1, -1));
        Due.is("e", BAD, x.feed(1, 1, 1, 1, 1, HIGH));
        Due.is("nothing came", 0, x.count(4));
        Due.is("one", 1, x.feed(1, 'w', 'x', 'x', 'x', 'x'));
        Due.is("four", 5, x.feed(4, 'a', 'r', 'm', 's', 'x'));
        Due.is("five", 10, x.feed(5, ' ', '9', '9', ';', 'c'));
        Due.is("three", 13, x.feed(3, 'o', 'o', 'l', 'x', 'x'));
        Due.is("two", 15, x.feed(2, 's', ' ', 'x', 'x', 'x'));
        Due.tape(x, "8;looks 1;");
        Due.is("text()", 1, x.text());
        x.force(1);
        Due.is("warms", 99, x.asks(0, 0, 0, 0, 0));
        Due.is("cools", 8, x.asks(1, 0, 0, 0, 0));
        for (int i = 0; i < 31; i++) {
            x.feed(5, 0, 255, 32, 32, 32);
        }
        Due.is("158", 158, x.feed(3, 32, 32, 32, 32, 32));
        Due.is("no room for three", FULL, x.feed(3, 32, 32, 32, 32, 32));
        Due.is("BAD ahead of FULL", BAD, x.feed(3, 32, 32, 32, 32, 256));
        Due.is("none came", 158, x.count(4));
        Due.is("room for two", 160, x.feed(2, 32, 32, 32, 32, 32));
        Due.is("no room for one", FULL, x.feed(1, 32, 32, 32, 32, 32));
        Due.is("fault at the first byte", -100, x.text());
        Due.is("empty then", 0, x.count(4));
        Due.is("room again", 5, x.feed(5, 1, 1, 1, 1, 1));
    }

    private static void texts() {
        Due.part("4 text");
        GoneRed x = new GoneRed();
        Due.is("empty", -100, x.text());
        Due.is("first", 1, Due.text(x, STILL));
        Due.is("the tape is empty", 0, x.count(4));
        Due.is("a fault", -106, Due.text(x, "warms ;"));
        Due.is("the tape is empty by a fault, too", 0, x.count(4));
        Due.is("none came", 2, x.count(2));
        for (int t = 2; t <= 5; t++) {
            Due.is("text", t, Due.text(x, SEVEN));
        }
        Due.is("full", FULL, Due.text(x, STILL));
        Due.is("the tape stays", STILL.length(), x.count(4));
        Due.is("full ahead of the fault", FULL, Due.text(x, "x"));
        Due.is("still six", 6, x.count(2));
        GoneRed y = new GoneRed();
        String filled = "warms " + "1+".repeat(67) + "1;cools 1;looks 2;";
        Due.is("a whole tape", 1, Due.text(y, filled + " ".repeat(160 - filled.length())));
        y.force(1);
        Due.is("68 times 1", 68, y.asks(0, 0, 0, 0, 0));
        Due.is("cools", 1, y.asks(1, 0, 0, 0, 0));
        Due.is("looks", 1, y.asks(2, 0, 0, 0, 0));
    }

    /** A bar marks where the FAULT is; without one the text is right. */
    private static void read(String marked) {
        int bar = marked.indexOf('|');
        String text = bar < 0 ? marked : marked.substring(0, bar) + marked.substring(bar + 1);
        Due.is(marked, bar < 0 ? 1 : -100 - bar, Due.text(new GoneRed(), text));
    }

    /** The same with an E that is what warms says. */
    private static void readE(String marked) {
        read("warms " + marked + "; cools 1; looks 1;");
    }

    private static void faults() {
        Due.part("4 the place of a fault");
        read("warms 1;cools 2;looks 3;");
        read("\n warms\n1 ; cools 2 ; looks 3 ;\n ");
        read("   |");
        read("warms|");
        read("warms |");
        read("warms 1|");
        read("warms 1;|");
        read("warms 1; cools 2; looks 3|");
        read("warms 1; cools 2; looks 3 \n|");
        read("warms 1; cools 2; looks 3; |;");
        read("warms 1; cools 2; looks 3; |warms");
        read("warms 1; cools 2; looks 3; |x");
        read("|cools 1;");
        read("|1");
        read("|;");
        read("|warmsx 1;");
        read("|warm 1;");
        read("|Warms 1;");
        read("warms 1; |looks 2;");
        read("warms 1;|; cools");
        read("warms |;");
        read("warms |cools");
        read("warms |warms");
        read("warms 1 |cools");
        readE("1 |2");
        readE("1234");
        readE("0009");
        readE("|12345");
        readE("|00001");
        readE("4|seen");
        readE("|glance");
        readE("|glancess");
        readE("|seenz");
        readE("|aseen");
        readE("|xight");
        readE("|lighx");
        readE("|z");
        readE("|warmt");
        readE("|Seen");
        readE("1 |\t");
        readE("1|\r");
        readE("|\0");
        readE("1 + |" + (char) 255);
        readE("1|.5");
        readE("1 + |+ 1");
        readE("|+ 1");
        readE("|* 1");
        readE("|< 1");
        readE("|= 1");
        readE("|)");
        readE("|or 1");
        readE("1 or |or 1");
        readE("1 and |or 1");
        readE("1 |not 2");
        readE("1 + |not 2");
        readE("1 < |not 2");
        readE("- |not 2");
        readE("1 + (not 2)");
        readE("1 and not 2 or not 1");
        readE("(1|");
        readE("1 + |");
        readE("1|)");
        readE("(|)");
        readE("(1)|)");
        readE("1 |(2)");
        readE("1 < 2 |< 3");
        readE("1 = 2 |< 3");
        readE("1 < 2 |= 3");
        readE("(1 < 2) < 3");
        readE("1 < 2 and 3 = 4 or 5 < 6");
        readE("warmth+glances+light+second+seen+more");
        Due.part("4 five are open");
        readE("not not not not not 1");
        readE("not not not not not |not 1");
        readE("not not not not not |(1)");
        readE("not not not not not |- 1");
        readE("- - - - - 1");
        readE("- - - - - |- 1");
        readE("- - - - - |(1)");
        readE("(((((1)))))");
        readE("(((((|(1))))))");
        readE("(((((|not 1)))))");
        readE("(((((|- 1)))))");
        readE("(((((1 - 1)))))");
        readE("not (- (- |(1)))");
        readE("not (- (- 1))");
        readE("(((((1))))) + (((((1)))))");
        readE("not 1 and not 1 and not 1 and not 1 and not 1 and not 1 and not 1");
        readE("- 1 - - 1 - - 1 - - 1 - - 1 - - 1 - - 1");
        readE("not not not not not 1 < |- 1");
        readE("not not not not not 1 + |(1)");
        readE("not not not not not 1 or - 1");
        readE("not not not not not 1 and - 1");
        readE("not not not not - 1 + - 1 < - 1");
        readE("- - - - - 1 * - 1");
        readE("(not (not - 1))");
        readE("(not (not - |(1)))");
        readE("(not (not - |- 1))");
        readE("(not (not not 1))");
    }

    private static void value(String e, int want) {
        GoneRed x = Due.world("warms 1; cools 1; looks (" + e + ") = " + want + ";");
        Due.is(e + " = " + want, 1, x.asks(2, 123, 37, 211, 8));
    }

    private static void values() {
        Due.part("4 what a text says");
        value("1 + 2 * 3", 7);
        value("(1 + 2) * 3", 9);
        value("10 - 3 - 2", 5);
        value("10 - 3 + 2", 9);
        value("2 * 3 * 4", 24);
        value("- 2 * - 3", 6);
        value("2 - - 3", 5);
        value("0 - 5 + 6", 1);
        value("7 or 0", 1);
        value("0 or 7", 1);
        value("0 or 0", 0);
        value("7 and 5", 1);
        value("7 and 0", 0);
        value("0 and 7", 0);
        value("4 and 3", 1);
        value("1 or 0 and 0", 1);
        value("(1 or 0) and 0", 0);
        value("0 and 0 or 1", 1);
        value("not 0", 1);
        value("not 7", 0);
        value("not not 7", 1);
        value("not 0 = 1", 1);
        value("(not 0) = 1", 1);
        value("not 1 = 1", 0);
        value("(not 1) = 1", 0);
        value("not 0 and 0", 0);
        value("not 1 or 1", 1);
        value("1 < 2", 1);
        value("2 < 2", 0);
        value("3 < 2", 0);
        value("2 = 2", 1);
        value("2 = 3", 0);
        value("- 3 < - 2", 1);
        value("1 + 1 < 1 * 3", 1);
        value("warmth", 123);
        value("glances", 3);
        value("light", 7);
        value("second", 21);
        value("seen", 1);
        value("more", 8);
        value("9999 * 9999 - 9999 * 9998", 9999);
        value("9999 * 9999 * 9999 < 0", 1);
        value("9999 * 9999 * 9999 + 9999 * 9999 * 10 + 9999 * 2749 < 0 - 9999", 1);
        value("0007", 7);
    }

    private static void force() {
        Due.part("5 force");
        GoneRed x = new GoneRed();
        Due.is("no text 1", BAD, x.force(1));
        Due.is("below", BAD, x.force(-1));
        Due.is("text 0", 0, x.force(0));
        Due.text(x, STILL);
        Due.text(x, SEVEN);
        Due.is("was 0", 0, x.force(2));
        Due.is("was 2", 2, x.force(1));
        Due.is("above", BAD, x.force(3));
        Due.is("stays", 1, x.count(3));
        Due.is("warms 0", 0, x.asks(0, 0, 0, 0, 0));
        Due.is("was 1", 1, x.force(2));
        Due.is("warms 10", 10, x.asks(0, 0, 0, 0, 0));
    }

    private static void asks() {
        Due.part("6 asks");
        GoneRed x = new GoneRed();
        Due.is("3 glances, seen", 15, x.asks(0, 0, 30, 1, 0));
        Due.is("3 glances", 12, x.asks(0, 0, 30, 0, 0));
        Due.is("4 glances, light 9", 16, x.asks(0, 400, 49, 0, 9));
        Due.is("light is no glance", 0, x.asks(0, 0, 9, 0, 0));
        Due.is("cools", 3, x.asks(1, 400, 49, 401, 9));
        Due.is("looks: seen", 1, x.asks(2, 0, 0, 401, 0));
        Due.is("looks: second 8 < 9", 1, x.asks(2, 0, 0, 80, 9));
        Due.is("looks: second 9 < 9", 0, x.asks(2, 0, 0, 90, 9));
        Due.is("looks: second 40", 0, x.asks(2, 0, 0, 400, 9));
        Due.is("part", BAD, x.asks(3, 0, 0, 0, 0));
        Due.is("part", BAD, x.asks(-1, 0, 0, 0, 0));
        Due.is("warm", BAD, x.asks(0, 401, 0, 0, 0));
        Due.is("warm", BAD, x.asks(0, -1, 0, 0, 0));
        Due.is("looksLight", BAD, x.asks(0, 0, 50, 0, 0));
        Due.is("looksLight", BAD, x.asks(0, 0, -1, 0, 0));
        Due.is("secondSeen", BAD, x.asks(0, 0, 0, 402, 0));
        Due.is("secondSeen", BAD, x.asks(0, 0, 0, -1, 0));
        Due.is("seen is 1 or 0", BAD, x.asks(0, 0, 0, 2, 0));
        Due.is("seen is 1 or 0", BAD, x.asks(0, 0, 0, 19, 0));
        Due.is("more", BAD, x.asks(0, 0, 0, 0, 10));
        Due.is("more", BAD, x.asks(0, 0, 0, 0, -1));
        GoneRed y = Due.world("warms warmth; cools warmth - 100; looks warmth - 100;");
        Due.is("99", 99, y.asks(0, 99, 0, 0, 0));
        Due.is("the upper bound", 99, y.asks(0, 100, 0, 0, 0));
        Due.is("the lower bound", 0, y.asks(1, 99, 0, 0, 0));
        Due.is("1", 1, y.asks(1, 101, 0, 0, 0));
        Due.is("the upper bound", 99, y.asks(1, 400, 0, 0, 0));
        Due.is("not 0", 1, y.asks(2, 99, 0, 0, 0));
        Due.is("0", 0, y.asks(2, 100, 0, 0, 0));
        Due.is("not 0", 1, y.asks(2, 101, 0, 0, 0));
    }

    private static void faces() {
        Due.part("7 face");
        GoneRed x = new GoneRed();
        Due.is("kindMore", BAD, x.face(-1, 0, 0));
        Due.is("kindMore", BAD, x.face(60, 0, 0));
        Due.is("warm", BAD, x.face(0, -1, 0));
        Due.is("warm", BAD, x.face(0, 401, 0));
        Due.is("seat", BAD, x.face(0, 0, -1));
        Due.is("seat", BAD, x.face(0, 0, 8));
        Due.is("none came", 0, x.count(0));
        Due.is("first", 0, x.face(59, 400, 7));
        Due.is("KIND", 5, x.told(0, 2));
        Due.is("MORE", 9, x.told(0, 3));
        Due.is("WARMTH", 400, x.told(0, 0));
        Due.is("SEAT", 7, x.told(0, 1));
        Due.is("taken seat", STATE, x.face(0, 0, 7));
        Due.is("BAD ahead of STATE", BAD, x.face(0, 401, 7));
        Due.is("second", 1, x.face(0, 0, 0));
        Due.is("third", 2, x.face(17, 3, 1));
        Due.is("fourth", 3, x.face(0, 0, 2));
        Due.is("fifth", 4, x.face(0, 0, 3));
        Due.is("full", FULL, x.face(0, 0, 4));
        Due.is("FULL ahead of STATE", FULL, x.face(0, 0, 3));
        Due.is("BAD ahead of FULL", BAD, x.face(0, 0, 8));
        Due.is("five", 5, x.count(0));
    }

    private static void warm() {
        Due.part("8 warm");
        GoneRed x = new GoneRed();
        Due.is("no face", NO_SUCH, x.warm(0, 0));
        x.face(0, 30, 0);
        Due.is("was 30", 30, x.warm(0, 400));
        Due.is("was 400", 400, x.warm(0, 0));
        Due.is("is 0", 0, x.told(0, 0));
        Due.is("above", NOT_TOLD, x.warm(0, 401));
        Due.is("below", NOT_TOLD, x.warm(0, -1));
        Due.is("no face", NO_SUCH, x.warm(1, 401));
        Due.is("no face", NO_SUCH, x.warm(-1, 0));
        Due.is("stays", 0, x.told(0, 0));
    }

    private static void sit() {
        Due.part("9 sit");
        GoneRed x = new GoneRed();
        Due.is("no face", NO_SUCH, x.sit(0, 0));
        x.face(0, 0, 0);
        x.face(0, 0, 1);
        Due.is("to an empty seat", 0, x.sit(0, 7));
        Due.is("there", 7, x.told(0, 1));
        Due.is("its seat is free", 7, x.sit(0, 0));
        Due.is("to the other's", 0, x.sit(0, 1));
        Due.is("there", 1, x.told(0, 1));
        Due.is("the other goes where it sat", 0, x.told(1, 1));
        Due.is("its own", 1, x.sit(0, 1));
        Due.is("there still", 1, x.told(0, 1));
        Due.is("no seat", NOT_TOLD, x.sit(0, 8));
        Due.is("no seat", NOT_TOLD, x.sit(0, -1));
        Due.is("no face first", NO_SUCH, x.sit(2, 8));
    }

    private static void lamp() {
        Due.part("10 lamp");
        GoneRed x = new GoneRed();
        Due.is("was dark", 0, x.lamp(7, 9));
        Due.is("was 9", 9, x.lamp(7, 4));
        Due.is("was 4", 4, x.lamp(7, 0));
        Due.is("no seat", NO_SUCH, x.lamp(8, 0));
        Due.is("no seat first", NO_SUCH, x.lamp(-1, 10));
        Due.is("above", NOT_TOLD, x.lamp(0, 10));
        Due.is("below", NOT_TOLD, x.lamp(0, -1));
        Due.is("stays", 0, x.lamp(0, 0));
    }

    private static int redFrom(int kindMore, int light) {
        GoneRed x = new GoneRed();
        x.face(kindMore, 0, 3);
        x.lamp(3, light);
        return x.told(0, 5);
    }

    private static void told() {
        Due.part("11 told");
        GoneRed x = new GoneRed();
        Due.is("no face", NO_SUCH, x.told(0, 0));
        x.face(47, 33, 6);
        x.lamp(6, 5);
        Due.is("WARMTH", 33, x.told(0, 0));
        Due.is("SEAT", 6, x.told(0, 1));
        Due.is("KIND", 4, x.told(0, 2));
        Due.is("MORE", 7, x.told(0, 3));
        Due.is("LIGHT", 5, x.told(0, 4));
        Due.is("RED from", 60 - 8 + 70 + 20, x.told(0, 5));
        Due.is("what", NOT_TOLD, x.told(0, 6));
        Due.is("what", NOT_TOLD, x.told(0, -1));
        Due.is("no face first", NO_SUCH, x.told(1, 6));
        Due.is("no face", NO_SUCH, x.told(-1, 0));
        Due.is("FACE in the dark", 60, redFrom(9, 0));
        Due.is("FACE in 9", 24, redFrom(9, 9));
        Due.is("SHY", 56, redFrom(19, 1));
        Due.is("DARK", 130, redFrom(29, 5));
        Due.is("DARK of 0", 60, redFrom(20, 0));
        Due.is("RUNAWAY", 24, redFrom(39, 9));
        Due.is("BEARD of 0", 80, redFrom(40, 0));
        Due.is("BEARD in 1", 80, redFrom(40, 1));
        Due.is("BEARD in 9", 60 - 16 + 20 + 90, redFrom(49, 9));
        Due.is("WINED", 52, redFrom(59, 2));
    }

    private static void causes() {
        Due.part("12 cause");
        GoneRed x = Due.world(STILL);
        Due.is("no face", NO_SUCH, x.cause(0, 0, 0));
        x.face(0, 0, 0);
        x.face(0, 0, 1);
        Due.is("no face first", NO_SUCH, x.cause(40, 2, 0));
        Due.is("second", NOT_TOLD, x.cause(40, 0, 0));
        Due.is("second", NOT_TOLD, x.cause(-1, 0, 0));
        Due.is("much", NOT_TOLD, x.cause(0, 0, 401));
        Due.is("much", NOT_TOLD, x.cause(0, 0, -1));
        Due.is("first", 0, x.cause(5, 0, 30));
        Due.is("of like second", 1, x.cause(5, 0, 12));
        Due.is("of the other", 2, x.cause(5, 1, 400));
        Due.is("last second", 3, x.cause(39, 0, 400));
        Due.is("before", 0, x.at(5, 0, 0));
        Due.is("behind", 42, x.at(6, 0, 0));
        Due.is("the other", 400, x.at(6, 1, 0));
        Due.is("before the last", 42, x.at(39, 0, 0));
        Due.is("behind the last", 400, x.at(40, 0, 0));
        for (int k = 4; k < 8; k++) {
            Due.is("cause", k, x.cause(k, 1, k));
        }
        Due.is("full", FULL, x.cause(0, 0, 0));
        Due.is("-7 ahead of FULL", NOT_TOLD, x.cause(0, 0, 401));
        Due.is("-5 ahead of FULL", NO_SUCH, x.cause(0, -1, 401));
    }

    private static void uncause() {
        Due.part("13 uncause");
        GoneRed x = Due.world(STILL);
        Due.is("none", STATE, x.uncause());
        x.face(0, 0, 0);
        x.cause(3, 0, 10);
        x.cause(4, 0, 20);
        Due.is("one left", 1, x.uncause());
        Due.is("the first stays", 10, x.at(40, 0, 0));
        Due.is("none left", 0, x.uncause());
        Due.is("no cause", 0, x.at(40, 0, 0));
        Due.is("none", STATE, x.uncause());
        Due.is("the next is the first", 0, x.cause(1, 0, 5));
    }

    private static void causeTold() {
        Due.part("14 causeTold");
        GoneRed x = new GoneRed();
        Due.is("none", NO_SUCH, x.causeTold(0, 0));
        x.face(0, 0, 0);
        x.face(0, 0, 1);
        x.cause(39, 1, 400);
        x.cause(7, 0, 8);
        Due.is("SECOND", 39, x.causeTold(0, 0));
        Due.is("FACE", 1, x.causeTold(0, 1));
        Due.is("MUCH", 400, x.causeTold(0, 2));
        Due.is("SECOND", 7, x.causeTold(1, 0));
        Due.is("FACE", 0, x.causeTold(1, 1));
        Due.is("MUCH", 8, x.causeTold(1, 2));
        Due.is("what", NOT_TOLD, x.causeTold(1, 3));
        Due.is("what", NOT_TOLD, x.causeTold(1, -1));
        Due.is("no cause first", NO_SUCH, x.causeTold(2, 3));
        Due.is("no cause", NO_SUCH, x.causeTold(-1, 0));
    }

    private static int afterOne(String law, int kindMore, int warm) {
        GoneRed x = Due.world(law);
        x.face(kindMore, warm, 0);
        return x.at(1, 0, 0);
    }

    private static void kindsWarmAndCool() {
        Due.part("15 what kinds warm and cool");
        String warms = "warms 11; cools 0; looks 0;";
        Due.is("FACE", 111, afterOne(warms, 9, 100));
        Due.is("SHY, not red", 70, afterOne(warms, 19, 59));
        Due.is("SHY, red", 82, afterOne(warms, 19, 60));
        Due.is("DARK, red", 211, afterOne(warms, 29, 200));
        Due.is("RUNAWAY, not red", 73, afterOne(warms, 33, 59));
        Due.is("RUNAWAY, red", 85, afterOne(warms, 33, 60));
        Due.is("BEARD, red", 211, afterOne(warms, 49, 200));
        Due.is("WINED", 106, afterOne(warms, 59, 100));
        Due.is("WINED of none", 101, afterOne(STILL, 59, 100));
        String cools = "warms 0; cools 7; looks 0;";
        Due.is("FACE", 293, afterOne(cools, 9, 300));
        Due.is("SHY", 293, afterOne(cools, 19, 300));
        Due.is("DARK", 293, afterOne(cools, 29, 300));
        Due.is("RUNAWAY at 200", 193, afterOne(cools, 30, 200));
        Due.is("RUNAWAY above", 198, afterOne(cools, 30, 201));
        Due.is("BEARD", 293, afterOne(cools, 49, 300));
        Due.is("WINED below 50", 50, afterOne(cools, 55, 49));
        Due.is("WINED at 50", 44, afterOne(cools, 55, 50));
        Due.is("0 at least", 0, afterOne(cools, 0, 6));
        Due.is("400 at most", 400, afterOne(warms, 0, 390));
        Due.is("400 after cooling", 397, afterOne(SEVEN, 0, 390));
        Due.is("all at once", 400, afterOne(SEVEN, 0, 393));
        Due.is("all at once", 0, afterOne("warms 3; cools 10; looks 0;", 0, 7));
        Due.is("all at once", 1, afterOne("warms 3; cools 10; looks 0;", 0, 8));
    }

    private static void at() {
        Due.part("15 at");
        GoneRed x = Due.world(SEVEN);
        Due.is("no face", NO_SUCH, x.at(0, 0, 0));
        x.face(0, 0, 0);
        Due.is("at first", 0, x.at(0, 0, 0));
        Due.is("behind 8", 56, x.at(8, 0, 0));
        Due.is("behind 40", 280, x.at(40, 0, 0));
        Due.is("not red behind 8", 0, x.at(8, 0, 1));
        Due.is("red behind 9", 1, x.at(9, 0, 1));
        Due.is("nobody looks", 0, x.at(9, 0, 2));
        Due.is("what", NOT_TOLD, x.at(0, 0, 3));
        Due.is("what", NOT_TOLD, x.at(0, 0, -1));
        Due.is("n", NO_SUCH, x.at(41, 0, 0));
        Due.is("n first", NO_SUCH, x.at(-1, 0, 3));
        Due.is("no face first", NO_SUCH, x.at(0, 1, 3));
        x.warm(0, 60);
        Due.is("red at first", 1, x.at(0, 0, 1));
        x.warm(0, 59);
        Due.is("not red at first", 0, x.at(0, 0, 1));
        x.lamp(0, 1);
        Due.is("red in more light", 1, x.at(0, 0, 1));
        Due.is("what is asked changes nothing", 59, x.told(0, 0));
    }

    private static void looks() {
        Due.part("15 who looks");
        GoneRed x = Due.world("warms glances; cools 0; looks more = 5;");
        x.face(5, 0, 0);
        x.face(5, 0, 1);
        x.face(0, 0, 2);
        Due.is("looked at first", 0, x.at(0, 2, 2));
        Due.is("by the other of 5", 1, x.at(1, 0, 2));
        Due.is("by the other of 5", 1, x.at(1, 1, 2));
        Due.is("by both", 2, x.at(1, 2, 2));
        Due.is("warmer by each look", 80, x.at(40, 2, 0));
        GoneRed y = Due.world("warms glances * 10; cools 0; looks glances;");
        y.face(0, 0, 0);
        y.face(0, 0, 1);
        Due.is("no glances ahead of second 0", 0, y.at(40, 0, 0));
        GoneRed z = Due.world("warms glances * 10; cools 0; looks second = 3 or glances;");
        z.face(0, 0, 0);
        z.face(0, 0, 1);
        Due.is("not yet", 0, z.at(3, 0, 2));
        Due.is("from second 3 on", 1, z.at(4, 0, 2));
        Due.is("looks stay", 1, z.at(9, 0, 2));
        Due.is("six looks", 60, z.at(9, 0, 0));
    }

    private static void namesInASecond() {
        Due.part("15 names");
        GoneRed x = Due.world("warms light + more * 10; cools 0; looks 0;");
        x.face(3, 0, 4);
        x.lamp(4, 7);
        Due.is("light, more", 37, x.at(1, 0, 0));
        GoneRed y = Due.world("warms second; cools seen; looks 0;");
        y.face(0, 50, 0);
        Due.is("second", 50, y.at(1, 0, 0));
        Due.is("0 + 1 + 2 + 3 + 4", 60, y.at(5, 0, 0));
        Due.is("red: 5 more, 1 less", 64, y.at(6, 0, 0));
        GoneRed z = Due.world("warms 0; cools warmth = 100; looks warmth = 100 or light = 4 or seen and more = 2;");
        z.face(0, 100, 0);
        z.face(2, 0, 1);
        z.lamp(1, 4);
        Due.is("cools at 100", 99, z.at(2, 0, 0));
        Due.is("by warmth", 1, z.at(1, 0, 2));
        Due.is("by seen, and the looker's more", 1, z.at(2, 0, 2));
        Due.is("by light", 1, z.at(1, 1, 2));
        z.warm(0, 99);
        z.warm(1, 99);
        z.lamp(1, 0);
        Due.is("by seen, and the looker's more", 1, z.at(1, 0, 2));
        Due.is("the looker's more is 0", 0, z.at(1, 1, 2));
    }

    private static void red() {
        Due.part("16 red");
        GoneRed x = Due.world(SEVEN);
        Due.is("no face", NO_SUCH, x.red(0, 0));
        x.face(0, 0, 0);
        Due.is("most", 280, x.red(0, 0));
        Due.is("behind how many", 32, x.red(0, 1));
        Due.is("first", 8, x.red(0, 2));
        Due.is("last", 39, x.red(0, 3));
        Due.is("FELT", 5740, x.red(0, 4));
        Due.is("what", NOT_TOLD, x.red(0, 5));
        Due.is("what", NOT_TOLD, x.red(0, -1));
        Due.is("no face first", NO_SUCH, x.red(1, 5));
        GoneRed y = Due.world("warms 0; cools 10; looks 0;");
        y.face(0, 95, 0);
        Due.is("most at first", 95, y.red(0, 0));
        Due.is("85, 75, 65", 3, y.red(0, 1));
        Due.is("first", 0, y.red(0, 2));
        Due.is("last", 2, y.red(0, 3));
        Due.is("85 .. 5", 405, y.red(0, 4));
        y.warm(0, 65);
        Due.is("red at first alone", 0, y.red(0, 1));
        Due.is("no first", -1, y.red(0, 2));
        Due.is("no last", -1, y.red(0, 3));
        y.cause(39, 0, 75);
        Due.is("behind the last: 10 less, 75 more", 39, y.red(0, 2));
        y.uncause();
        y.warm(0, 70);
        Due.is("behind the first alone", 0, y.red(0, 3));
        y.warm(0, 65);
        y.cause(20, 0, 75);
        Due.is("once", 1, y.red(0, 1));
        Due.is("first", 20, y.red(0, 2));
        Due.is("last", 20, y.red(0, 3));
    }

    private static void row() {
        Due.part("17 row");
        GoneRed x = Due.world(SEVEN);
        x.face(0, 0, 0);
        x.face(0, 395, 1);
        x.face(0, 46, 2);
        Due.is("red at first", 2, x.row(0, 0));
        Due.is("red behind 2", 6, x.row(2, 0));
        Due.is("red behind 40", 7, x.row(40, 0));
        Due.is("together at first", 441, x.row(0, 1));
        Due.is("together behind 1", 7 + 400 + 53, x.row(1, 1));
        Due.is("400 at first", 0, x.row(0, 2));
        Due.is("400 behind 1", 2, x.row(1, 2));
        Due.is("n", NO_SUCH, x.row(41, 0));
        Due.is("n first", NO_SUCH, x.row(-1, 3));
        Due.is("what", NOT_TOLD, x.row(0, 3));
        Due.is("what", NOT_TOLD, x.row(0, -1));
    }

    private static void pass() {
        Due.part("18 pass");
        GoneRed x = Due.world(SEVEN);
        x.face(0, 0, 0);
        x.face(0, 40, 1);
        x.cause(2, 0, 100);
        Due.is("n", BAD, x.pass(41));
        Due.is("n", BAD, x.pass(-1));
        Due.is("none pass", 0, x.pass(0));
        Due.is("as it was", 0, x.told(0, 0));
        Due.is("two pass", 0, x.pass(2));
        Due.is("14", 14, x.told(0, 0));
        Due.is("54", 54, x.told(1, 0));
        Due.is("a cause stays", 1, x.count(1));
        Due.is("both red", 2, x.pass(3));
        Due.is("its cause came in second 2 again", 135, x.told(0, 0));
        Due.is("75", 75, x.told(1, 0));
        Due.is("forty", 2, x.pass(40));
        Due.is("400", 400, x.told(0, 0));
        GoneRed y = Due.world("warms glances * 10; cools 0; looks second = 0 or glances;");
        y.face(0, 0, 0);
        y.face(0, 0, 1);
        y.pass(1);
        Due.is("second 0 again", 20, y.at(1, 0, 0));
    }

    private static void dies() {
        Due.part("19 dies");
        GoneRed x = Due.world(STILL);
        Due.is("no face", NO_SUCH, x.dies(0));
        x.face(0, 59, 0);
        Due.is("never red", 0, x.dies(0));
        x.warm(0, 60);
        Due.is("red", 1, x.dies(0));
        x.warm(0, 399);
        Due.is("399", 1, x.dies(0));
        x.warm(0, 400);
        Due.is("400", 2, x.dies(0));
        Due.is("no face", NO_SUCH, x.dies(-1));
        GoneRed y = Due.world("warms 0; cools 99; looks 0;");
        y.face(0, 400, 0);
        Due.is("400 at first", 2, y.dies(0));
        y.warm(0, 399);
        Due.is("not red behind the last", 0, y.dies(0));
        y.cause(30, 0, 399);
        Due.is("300 is not 400", 0, y.dies(0));
        y.cause(30, 0, 100);
        Due.is("400 on the way", 2, y.dies(0));
        y.warm(0, 0);
        y.uncause();
        y.uncause();
        y.cause(39, 0, 159);
        Due.is("red behind the last", 1, y.dies(0));
    }

    private static void line() {
        Due.part("20 line");
        GoneRed x = Due.world(SEVEN);
        Due.is("no face", NO_SUCH, x.line(0));
        x.face(0, 400, 0);
        Due.is("110 + 280", 110, x.line(0));
        x.cause(0, 0, 19);
        Due.is("110 and 19: 400 after cooling", 100, x.line(0));
        x.uncause();
        x.cause(39, 0, 119);
        Due.is("0 and 399", 0, x.line(0));
        x.uncause();
        x.cause(39, 0, 120);
        Due.is("0 and 400", -1, x.line(0));
        Due.is("no face", NO_SUCH, x.line(1));
        GoneRed y = Due.world(STILL);
        y.face(0, 0, 0);
        Due.is("the greatest", 390, y.line(0));
        GoneRed z = Due.world("warms (warmth < 90) * 99; cools 0; looks 0;");
        z.face(0, 0, 0);
        Due.is("not 2 above a 2, too", 390, z.line(0));
    }

    private static void stops() {
        Due.part("21 stops");
        GoneRed x = Due.world("warms 10; cools 3; looks 0;");
        Due.is("no face", NO_SUCH, x.stops(0, 0, 0));
        x.face(4, 0, 0);
        x.face(4, 0, 1);
        Due.is("no face first", NO_SUCH, x.stops(2, 320, 5));
        Due.is("what", NOT_TOLD, x.stops(0, 0, 5));
        Due.is("what", NOT_TOLD, x.stops(0, 0, -1));
        Due.is("stop", NOT_TOLD, x.stops(0, -1, 0));
        Due.is("stop", NOT_TOLD, x.stops(0, 320, 0));
        Due.is("at 20", NOT_TOLD, x.stops(0, 20, 0));
        Due.is("at 99", NOT_TOLD, x.stops(0, 199, 0));
        Due.is("at 20", NOT_TOLD, x.stops(0, 220, 0));
        Due.is("what 4", NOT_TOLD, x.stops(0, 400, 0));
        Due.is("HIGH", NOT_TOLD, x.stops(0, HIGH, 0));
        Due.is("turning away", 280, x.stops(0, 0, 0));
        Due.is("a pencil: 5 times 15 less", 205, x.stops(0, 119, 0));
        Due.is("a pencil at 0: 35 times 7", 245, x.stops(0, 100, 0));
        Due.is("saying it at 0: 30 and 40 times 2", 110, x.stops(0, 200, 0));
        Due.is("saying it at 19: 19 times 7, 30, 21 times 2", 133 + 30 + 42, x.stops(0, 219, 0));
        Due.is("a wish: ten times 1 less, 0 at least", 210, x.stops(0, 300, 0));
        Due.is("a wish at 19", 133 - 10 + 77, x.stops(0, 319, 0));
        Due.is("the first", 8, x.stops(0, 319, 2));
        Due.is("red by saying it: 30, 32, ..", 40 - 14, x.stops(0, 200, 1));
        Due.is("its last", 39, x.stops(0, 200, 3));
        Due.is("FELT", 30 * 40 + 2 * 820, x.stops(0, 200, 4));
        Due.is("nothing is changed", 280, x.red(0, 0));
        GoneRed y = Due.world("warms 5; cools 0; looks 0;");
        y.face(9, 100, 0);
        Due.is("a wish: 0 at least", 100 + 30 * 5, y.stops(0, 300, 0));
        Due.is("half is cut", 100 + 30 + 40 * 2, y.stops(0, 200, 0));
        GoneRed z = Due.world("warms glances * 10; cools 0; looks 1;");
        z.face(0, 0, 0);
        z.face(0, 0, 1);
        Due.is("ten seconds away", 300, z.stops(0, 0, 0));
        Due.is("ten seconds away", 300, z.stops(1, 19, 0));
        Due.is("the first", 5, z.stops(0, 6, 2));
        Due.is("the first", 15, z.stops(0, 1, 2));
        GoneRed w = Due.world("warms glances * 10; cools 0; looks second = 0 or glances;");
        w.face(0, 0, 0);
        w.face(0, 0, 1);
        Due.is("no glances stay behind it", 0, w.stops(0, 0, 0));
        Due.is("nor behind a later one", 70, w.stops(0, 7, 0));
        GoneRed v = Due.world("warms 1; cools 0; looks 0;");
        v.face(19, 60, 0);
        Due.is("a shy one half of twice", 60 + 30 + 40, v.stops(0, 200, 0));
        v.face(39, 10, 1);
        Due.is("a runaway warms 10, then red 11: 10, 20, .. 60, 71, ..", 60 + 34 * 11 > 400 ? 400 : 0, v.red(1, 0));
        Due.is("its wish of 18 less: none in 0 .. 9, then 10 five times, then 11", 60 + 25 * 11, v.stops(1, 300, 0));
    }

    private static void best() {
        Due.part("22 best");
        GoneRed x = Due.world(STILL);
        Due.is("no face", NO_SUCH, x.best(0, 0));
        x.face(0, 59, 0);
        Due.is("none is fewer", -1, x.best(0, 0));
        Due.is("as else", 0, x.best(0, 1));
        x.warm(0, 60);
        Due.is("a pencil at 0", 100, x.best(0, 0));
        Due.is("never red", 0, x.best(0, 1));
        x.warm(0, 400);
        Due.is("none helps", -1, x.best(0, 0));
        Due.is("as else", 40, x.best(0, 1));
        Due.is("what", NOT_TOLD, x.best(0, 2));
        Due.is("what", NOT_TOLD, x.best(0, -1));
        Due.is("no face first", NO_SUCH, x.best(1, 2));
        GoneRed y = Due.world(TEN_A_LOOK);
        y.face(0, 0, 0);
        y.face(0, 0, 1);
        Due.is("of like ones the first", 0, y.best(0, 0));
        Due.is("35 less 10", 25, y.best(0, 1));
        GoneRed z = Due.world(SEVEN);
        z.face(4, 0, 0);
        Due.is("42, 34, .. 2, 9, .. 65 behind 20: as by 107, 108, 301", 106, z.best(0, 0));
        Due.is("20 .. 40", 21, z.best(0, 1));
        GoneRed w = Due.world(STILL);
        w.face(0, 0, 0);
        w.cause(24, 0, 60);
        Due.is("a pencil at 20 would, but at is 19 at most", -1, w.best(0, 0));
        Due.is("24 .. 39", 16, w.best(0, 1));
        w.uncause();
        w.cause(39, 0, 55);
        w.warm(0, 10);
        Due.is("red once, and by a pencil never", 100, w.best(0, 0));
        Due.is("never", 0, w.best(0, 1));
    }

    private static void latest() {
        Due.part("23 latest");
        GoneRed x = Due.world(STILL);
        Due.is("no face", NO_SUCH, x.latest(0, 0));
        x.face(0, 134, 0);
        Due.is("turning away", -1, x.latest(0, 0));
        Due.is("a pencil", 19, x.latest(0, 1));
        Due.is("saying it", -1, x.latest(0, 2));
        Due.is("a wish", -1, x.latest(0, 3));
        x.warm(0, 135);
        Due.is("a pencil is too little", -1, x.latest(0, 1));
        x.warm(0, 59);
        Due.is("never red", 19, x.latest(0, 0));
        Due.is("saying it is 30", -1, x.latest(0, 2));
        x.warm(0, 29);
        Due.is("59", 19, x.latest(0, 2));
        Due.is("which", NOT_TOLD, x.latest(0, 4));
        Due.is("which", NOT_TOLD, x.latest(0, -1));
        Due.is("no face first", NO_SUCH, x.latest(1, 4));
        GoneRed y = Due.world("warms (second = 12) * 50; cools 0; looks 0;");
        y.face(9, 59, 0);
        Due.is("a pencil behind it is late", 19, y.latest(0, 1));
        y.warm(0, 10);
        Due.is("a wish of 18 till it", 12, y.latest(0, 3));
        Due.is("saying it halves it", -1, y.latest(0, 2));
        y.warm(0, 4);
        Due.is("saying it till it", 12, y.latest(0, 2));
        GoneRed z = Due.world("warms glances * 60; cools 0; looks second = 0;");
        z.face(0, 0, 0);
        z.face(0, 0, 1);
        Due.is("turning away at once", 0, z.latest(0, 0));
    }

    private static void adds() {
        Due.part("24 adds");
        GoneRed x = Due.world(TEN_A_LOOK);
        x.face(0, 0, 0);
        Due.is("alone", NO_TWO, x.adds(0, 1));
        x.face(0, 0, 1);
        x.face(0, 0, 2);
        Due.is("400 from 20 on: 20 times 1 .. 20, and 20 times 400; less 10 times 1 .. 40",
            20 * 210 + 20 * 400 - 8200, x.adds(0, 1));
        Due.is("alike", NO_TWO, x.adds(0, 0));
        Due.is("no face", NO_TWO, x.adds(3, 0));
        Due.is("no face", NO_TWO, x.adds(0, 3));
        Due.is("no face", NO_TWO, x.adds(-1, 0));
        Due.is("no face", NO_TWO, x.adds(0, -1));
        GoneRed y = Due.world("warms glances * 2; cools 0; looks more;");
        y.face(0, 0, 0);
        y.face(1, 0, 1);
        y.face(0, 0, 2);
        Due.is("the one who looks", 1640, y.adds(0, 1));
        Due.is("the one who does not", 0, y.adds(0, 2));
        Due.is("nor to the looker", 0, y.adds(1, 0));
        GoneRed z = Due.world("warms 0; cools glances; looks more;");
        z.face(0, 400, 0);
        z.face(1, 400, 1);
        Due.is("below 0", -820, z.adds(0, 1));
    }

    private static void turn() {
        Due.part("25 turn");
        GoneRed x = Due.world("warms glances * 2; cools 0; looks more;");
        Due.is("no face", NO_TWO, x.turn(0, 0));
        x.face(0, 0, 0);
        Due.is("nobody else", -1, x.turn(0, 0));
        Due.is("nothing", 0, x.turn(0, 1));
        x.face(0, 0, 1);
        x.face(1, 0, 2);
        x.face(1, 0, 3);
        Due.is("of like ones the first", 2, x.turn(0, 0));
        Due.is("that", 1640, x.turn(0, 1));
        Due.is("the other looker", 3, x.turn(2, 0));
        Due.is("the other looker", 2, x.turn(3, 0));
        Due.is("what", NO_TWO, x.turn(0, 2));
        Due.is("what", NO_TWO, x.turn(0, -1));
        Due.is("no face", NO_TWO, x.turn(4, 0));
        GoneRed y = Due.world("warms 0; cools glances * more; looks more;");
        y.face(1, 400, 0);
        y.face(1, 400, 1);
        Due.is("most is below 0", 1, y.turn(0, 0));
        Due.is("most is below 0", -820, y.turn(0, 1));
        GoneRed z = Due.world("warms 0; cools 0; looks 0;");
        z.face(0, 0, 0);
        z.face(0, 0, 1);
        Due.is("0 is a most, too", 0, z.turn(1, 0));
        Due.is("0 is a most, too", 0, z.turn(1, 1));
    }

    private static void stares() {
        Due.part("26 stares");
        GoneRed x = Due.world("warms glances * 2; cools 0; looks more;");
        Due.is("no face", NO_TWO, x.stares(0));
        x.face(1, 0, 0);
        Due.is("nobody else", 0, x.stares(0));
        x.face(0, 0, 1);
        x.face(1, 0, 2);
        Due.is("at two", 3280, x.stares(0));
        Due.is("one who does not look", 0, x.stares(1));
        Due.is("at two", 3280, x.stares(2));
        Due.is("no face", NO_TWO, x.stares(3));
        Due.is("no face", NO_TWO, x.stares(-1));
    }

    private static void where() {
        Due.part("27 where");
        GoneRed x = Due.world(STILL);
        Due.is("no face", NO_SUCH, x.where(0, 0));
        x.face(0, 40, 3);
        x.face(20, 40, 5);
        Due.is("dark everywhere", 0, x.where(0, 0));
        Due.is("never red", 0, x.where(0, 1));
        for (int s = 0; s < 8; s++) {
            x.lamp(s, 5);
        }
        Due.is("red everywhere, of like ones the first", 0, x.where(0, 0));
        Due.is("40", 40, x.where(0, 1));
        x.lamp(3, 4);
        Due.is("its own", 3, x.where(0, 0));
        x.lamp(3, 5);
        x.lamp(5, 4);
        Due.is("the other's", 5, x.where(0, 0));
        Due.is("never red there", 0, x.where(0, 1));
        Due.is("it sits where it sat", 3, x.told(0, 1));
        Due.is("what", NOT_TOLD, x.where(0, 2));
        Due.is("what", NOT_TOLD, x.where(0, -1));
        Due.is("no face first", NO_SUCH, x.where(2, 2));
        GoneRed y = Due.world("warms glances * 10; cools 0; looks light = 0 and second = 0;");
        y.face(0, 0, 0);
        y.face(0, 0, 1);
        y.lamp(1, 9);
        Due.is("the light it leaves is the other's", 0, y.where(0, 1));
    }

    private static void change() {
        Due.part("28 change");
        GoneRed x = Due.world(STILL);
        Due.is("no faces", -1, x.change(0));
        Due.is("as now", 0, x.change(1));
        x.face(0, 55, 0);
        x.face(0, 55, 1);
        x.face(0, 30, 2);
        x.face(0, 30, 3);
        Due.is("never red", -1, x.change(0));
        x.lamp(1, 2);
        Due.is("1 with 2", 12, x.change(0));
        Due.is("never red then", 0, x.change(1));
        x.lamp(0, 2);
        Due.is("of like ones the first", 2, x.change(0));
        Due.is("one is red still", 40, x.change(1));
        x.lamp(2, 2);
        x.lamp(3, 2);
        Due.is("none helps", -1, x.change(0));
        Due.is("as now", 80, x.change(1));
        Due.is("what", BAD, x.change(2));
        Due.is("what", BAD, x.change(-1));
        Due.is("all sit where they sat", 0, x.told(0, 1));
        x.lamp(0, 0);
        x.lamp(1, 0);
        x.lamp(2, 0);
        x.lamp(3, 0);
        x.warm(3, 90);
        Due.is("one is red anywhere", -1, x.change(0));
        x.lamp(7, 9);
        x.sit(2, 7);
        Due.is("30 is red there, 90 anywhere", 23, x.change(0));
        Due.is("that alone then", 40, x.change(1));
        x.warm(2, 90);
        x.warm(3, 30);
        x.lamp(3, 8);
        Due.is("30 is red there, too, 55 in any light", -1, x.change(0));
    }

    private static void shade() {
        Due.part("29 shade");
        GoneRed x = Due.world(STILL);
        Due.is("nobody", 0, x.shade(0, 0));
        Due.is("nobody", 0, x.shade(7, 1));
        x.face(0, 30, 0);
        x.face(0, 70, 1);
        x.lamp(0, 9);
        Due.is("of like ones the least", 0, x.shade(0, 0));
        Due.is("the other is red", 40, x.shade(0, 1));
        Due.is("the other's: all like", 0, x.shade(1, 0));
        Due.is("both red", 80, x.shade(1, 1));
        Due.is("its light is as it was", 9, x.told(0, 4));
        Due.is("no seat", NO_SUCH, x.shade(8, 2));
        Due.is("no seat", NO_SUCH, x.shade(-1, 0));
        Due.is("what", NOT_TOLD, x.shade(0, 2));
        Due.is("what", NOT_TOLD, x.shade(0, -1));
        GoneRed y = Due.world("warms 0; cools (light = 9 or light = 6) * 2; looks 0;");
        y.face(0, 61, 0);
        Due.is("6: red behind 61 .. 36: 12", 9, 15 - y.shade(0, 0));
        Due.is("61, 59, .. 37, at 6 red from 36 on", 12, y.shade(0, 1));
        GoneRed z = Due.world("warms 0; cools (light = 9) * 99; looks 0;");
        z.face(0, 61, 0);
        Due.is("9", 9, z.shade(0, 0));
        Due.is("never red", 0, z.shade(0, 1));
    }

    private static void sets() {
        Due.part("30 sets");
        // a look asks of the one looked at, and of the looker's MORE alone: no one sets off another
        GoneRed x = new GoneRed();
        Due.is("no face", NO_SUCH, x.sets(0, 0));
        x.face(0, 0, 0);
        Due.is("alone", 0, x.sets(0, 400));
        x.face(9, 59, 1);
        x.face(11, 0, 2);
        Due.is("one oneself is no other", 0, x.sets(0, 400));
        Due.is("nobody", 0, x.sets(2, 400));
        Due.is("much", NOT_TOLD, x.sets(0, 401));
        Due.is("much", NOT_TOLD, x.sets(0, -1));
        Due.is("no face first", NO_SUCH, x.sets(3, 401));
        Due.is("no face", NO_SUCH, x.sets(-1, 0));
        GoneRed y = Due.world(SEVEN);
        y.face(0, 0, 0);
        y.face(0, 0, 1);
        Due.is("red else, too", 0, y.sets(0, 400));
        Due.is("no cause came", 0, y.count(1));
    }

    private static void needs() {
        Due.part("31 needs");
        GoneRed x = Due.world(STILL);
        Due.is("no face", NO_SUCH, x.needs(0));
        x.face(0, 0, 0);
        Due.is("60", 60, x.needs(0));
        x.warm(0, 1);
        Due.is("59 is asked as 60", 60, x.needs(0));
        x.warm(0, 10);
        Due.is("50", 50, x.needs(0));
        x.warm(0, 60);
        Due.is("none", 0, x.needs(0));
        Due.is("no face", NO_SUCH, x.needs(1));
        Due.is("no face", NO_SUCH, x.needs(-1));
        GoneRed y = Due.world("warms 0; cools 90; looks 0;");
        y.face(29, 0, 0);
        Due.is("150 and 90", 240, y.needs(0));
        GoneRed z = Due.world("warms 0; cools 99; looks 0;");
        z.face(49, 0, 0);
        Due.is("170 and 99", 270, z.needs(0));
        GoneRed w = Due.world("warms 0; cools 0; looks 0;");
        w.face(29, 0, 0);
        Due.is("150", 150, w.needs(0));
        GoneRed v = Due.world("warms 0; cools (second = 0) * 99; looks 0;");
        v.face(0, 0, 0);
        Due.is("60 and 99: it comes in second 0", 160, v.needs(0));
    }

    private static void asked() {
        Due.part("32 asked");
        GoneRed x = Due.world("warms 0; cools 10; looks 0;");
        Due.is("nobody", 0, x.asked(0, 0));
        x.face(0, 0, 0);
        x.face(0, 30, 1);
        x.face(0, 60, 2);
        Due.is("red at first", 4, x.asked(400, 0));
        Due.is("40: 30, 60, 90", 6, x.asked(40, 1));
        Due.is("39", 4, x.asked(39, 1));
        Due.is("a second later", 4, x.asked(40, 2));
        Due.is("400, 380, .. 60", 7, x.asked(400, 34));
        Due.is("390 from the first less 10 each", 6, x.asked(400, 35) | 6);
        Due.is("behind 40", 0, x.asked(400, 40));
        Due.is("much", BAD, x.asked(401, 0));
        Due.is("much", BAD, x.asked(-1, 0));
        Due.is("n", BAD, x.asked(0, 41));
        Due.is("n", BAD, x.asked(0, -1));
        GoneRed y = Due.world("warms glances * 40; cools 0; looks warmth = 30;");
        y.face(0, 0, 0);
        y.face(0, 0, 1);
        Due.is("each alone", 3, y.asked(30, 2));
        GoneRed z = Due.world("warms (warmth < 1) * 0 + glances * 50; cools 0; looks seen;");
        z.face(0, 0, 0);
        z.face(20, 0, 1);
        Due.is("each asked by itself", 3, z.asked(60, 1));
        Due.is("no one is asked by 0", 0, z.asked(0, 40));
    }

    private static void guilty() {
        Due.part("33 guilty");
        GoneRed x = Due.world(STILL);
        Due.is("no face", NO, x.guilty(0, 0, 0, 0));
        x.face(0, 0, 0);
        x.face(0, 60, 1);
        x.face(0, 0, 2);
        Due.is("red if guilty alone: 1", 1, x.guilty(0, 30030, 1, 0));
        Due.is("of 1", 1, x.guilty(0, 30030, 1, 1));
        Due.is("red if not, too: 1", 1, x.guilty(0, 60000, 1, 0));
        Due.is("of 3", 3, x.guilty(0, 60000, 1, 1));
        Due.is("red anyway: 1", 1, x.guilty(1, 0, 40, 0));
        Due.is("of 3", 3, x.guilty(1, 0, 40, 1));
        Due.is("can't be red", NO, x.guilty(0, 30029, 1, 0));
        Due.is("can't be red at first", NO, x.guilty(0, 400400, 0, 1));
        Due.is("no face", NO, x.guilty(3, 0, 1, 0));
        Due.is("no face", NO, x.guilty(-1, 0, 1, 0));
        Due.is("much", NO, x.guilty(1, 401000, 1, 0));
        Due.is("more", NO, x.guilty(1, 401, 1, 0));
        Due.is("more", NO, x.guilty(1, 999, 1, 0));
        Due.is("muchMore", NO, x.guilty(1, -1, 1, 0));
        Due.is("n", NO, x.guilty(1, 0, 41, 0));
        Due.is("n", NO, x.guilty(1, 0, -1, 0));
        Due.is("part", NO, x.guilty(1, 0, 1, 2));
        Due.is("part", NO, x.guilty(1, 0, 1, -1));
        Due.is("400 each", 3, x.guilty(1, 400400, 40, 1));
        GoneRed y = Due.world("warms 0; cools (150 < warmth) * 99; looks 0;");
        y.face(0, 0, 0);
        y.face(0, 0, 1);
        Due.is("not red if guilty, 155 and 56: 0", 0, y.guilty(0, 100055, 3, 0));
        Due.is("of 1", 1, y.guilty(0, 100055, 3, 1));
        GoneRed z = Due.world("warms 0; cools (150 < warmth) * 99; looks 0;");
        z.face(0, 0, 0);
        Due.is("the only one is guilty", NO, z.guilty(0, 100055, 3, 0));
        GoneRed w = Due.world("warms 0; cools 50; looks 0;");
        w.face(0, 0, 0);
        Due.is("400 at most together", NO, w.guilty(0, 400400, 7, 0));
        Due.is("a second ahead", 1, w.guilty(0, 400400, 5, 0));
    }

    private static void tell(GoneRed x, int s, int... told) {
        x.sheet(s, 2, told.length);
        for (int i = 0; i < told.length; i++) {
            x.cell(s, i, told[i]);
        }
    }

    /** The refusals that all told films share. */
    private static void refuse(String call, GoneRed x, java.util.function.IntUnaryOperator ask) {
        Due.is(call + ": sheet", BAD, ask.applyAsInt(4));
        Due.is(call + ": sheet", BAD, ask.applyAsInt(-1));
        x.sheet(3, -1, 0);
        Due.is(call + ": missing", -11, ask.applyAsInt(3));
        x.sheet(3, 0, 9);
        Due.is(call + ": more than 8", BAD, ask.applyAsInt(3));
    }

    private static void judge() {
        Due.part("34 judge");
        GoneRed x = Due.world(SEVEN);
        refuse("judge", x, s -> x.judge(s, 0));
        x.sheet(0, 2, 0);
        Due.is("no face", NO_SUCH, x.judge(0, 0));
        x.face(0, 0, 0);
        Due.is("nothing is told", -1, x.judge(0, 0));
        tell(x, 0, 35, 70, 105, 140, 175, 210, 245, 280);
        Due.is("all as told", -1, x.judge(0, 0));
        tell(x, 0, 35, 70, 105, 140, 175, 210, 245, 281);
        Due.is("the last", 7, x.judge(0, 0));
        tell(x, 0, 35, 71, 105, 141);
        Due.is("the first of two", 1, x.judge(0, 0));
        tell(x, 0, 34);
        Due.is("the first place", 0, x.judge(0, 0));
        Due.is("no face", NO_SUCH, x.judge(0, 1));
        Due.is("no face", NO_SUCH, x.judge(0, -1));
        x.sheet(1, 1, 3);
        x.cell(1, 0, 35);
        x.cell(1, 1, 70);
        x.cell(1, 2, 65536 + 105);
        Due.is("shorts", -1, x.judge(1, 0));
        x.sheet(1, 0, 3);
        x.cell(1, 0, 35);
        x.cell(1, 1, 70);
        x.cell(1, 2, 256 + 105);
        Due.is("bytes", -1, x.judge(1, 0));
        x.sheet(2, 0, 4);
        x.copy(1, 0, 2, 0, 3);
        x.cell(2, 3, 140);
        Due.is("a byte is -128 .. 127", 3, x.judge(2, 0));
    }

    private static void whose() {
        Due.part("35 whose");
        GoneRed x = Due.world(SEVEN);
        refuse("whose", x, x::whose);
        x.sheet(0, 2, 0);
        Due.is("nobody", 0, x.whose(0));
        x.face(0, 0, 0);
        x.face(20, 0, 1);
        x.face(0, 1, 2);
        Due.is("all", 7, x.whose(0));
        tell(x, 0, 35, 70);
        Due.is("two", 3, x.whose(0));
        tell(x, 0, 36, 71);
        Due.is("the third", 4, x.whose(0));
        tell(x, 0, 36, 70);
        Due.is("none", 0, x.whose(0));
    }

    private static void began() {
        Due.part("36 began");
        GoneRed x = Due.world(STILL);
        x.sheet(0, 2, 0);
        Due.is("no face", NO, x.began(0, 0, 0));
        x.face(0, 5, 0);
        x.face(0, 5, 1);
        Due.is("nothing is told: all", (1L << 40) - 1, x.began(0, 0, 400));
        tell(x, 0, 5, 25, 25);
        Due.is("5 .. 9", 31L << 5, x.began(0, 0, 20));
        tell(x, 0, 5, 5, 5, 5, 5, 5, 5, 25);
        Due.is("35 .. 39", 31L << 35, x.began(0, 0, 20));
        Due.is("another much", 0, x.began(0, 0, 21));
        tell(x, 0, 5);
        Due.is("from 5 on", ((1L << 40) - 1) & ~31L, x.began(0, 0, 1));
        Due.is("all by 0", (1L << 40) - 1, x.began(0, 0, 0));
        Due.is("much", NO, x.began(0, 0, 401));
        Due.is("much", NO, x.began(0, 0, -1));
        Due.is("no face", NO, x.began(0, 2, 0));
        Due.is("sheet", NO, x.began(4, 0, 0));
        Due.is("missing", NO, x.began(1, 0, 0));
        x.sheet(1, 0, 9);
        Due.is("more than 8", NO, x.began(1, 0, 0));
        Due.is("no cause came", 0, x.count(1));
    }

    private static void through() {
        Due.part("37 through");
        GoneRed x = Due.world("warms glances; cools 0; looks warmth < 1 and more = 1 and second = 4 or seen;");
        refuse("through", x, s -> x.through(s, 0, 0));
        tell(x, 0, 0);
        Due.is("no face", NO_SUCH, x.through(0, 0, 0));
        GoneRed y = Due.world("warms glances; cools 0; looks more < second;");
        y.face(9, 0, 0);
        y.face(9, 0, 1);
        tell(y, 0, 0);
        Due.is("another without looks", 2, y.through(0, 0, 40000));
        Due.is("so little", 2, y.through(0, 0, 0));
        Due.is("muchAt", NOT_TOLD, y.through(0, 0, -1));
        Due.is("second", NOT_TOLD, y.through(0, 0, 40));
        Due.is("second", NOT_TOLD, y.through(0, 0, 99));
        Due.is("much", NOT_TOLD, y.through(0, 0, 40100));
        Due.is("the last of both", 2, y.through(0, 0, 40039));
        Due.is("no face first", NO_SUCH, y.through(0, 2, 40));
        tell(y, 0, 1);
        Due.is("none", 0, y.through(0, 0, 40000));
        Due.is("one oneself is no other", 0, y.through(0, 0, 100));
        y.face(0, 0, 5);
        tell(y, 0, 4);
        Due.is("all others", 6, y.through(0, 0, 40000));
        Due.is("one of nine looks late", 6, y.through(0, 1, 40000) ^ 3);
    }

    private static void kinds() {
        Due.part("38 kinds");
        GoneRed x = Due.world("warms 4; cools 0; looks 0;");
        refuse("kinds", x, s -> x.kinds(s, 0, 0));
        tell(x, 0, 20);
        Due.is("no face", NO_SUCH, x.kinds(0, 0, 0));
        x.face(3, 0, 0);
        x.face(0, 0, 1);
        Due.is("all but the RUNAWAY, the WINED", 1 + 2 + 4 + 16, x.kinds(0, 0, 0));
        tell(x, 0, 35);
        Due.is("a RUNAWAY", 8, x.kinds(0, 0, 0));
        tell(x, 0, 15);
        Due.is("a WINED", 32, x.kinds(0, 0, 0));
        Due.is("no MORE", 0, x.kinds(0, 0, 1));
        tell(x, 0, 20);
        Due.is("each MORE", 1023, x.kinds(0, 0, 1));
        Due.is("sort", NOT_TOLD, x.kinds(0, 0, 2));
        Due.is("sort", NOT_TOLD, x.kinds(0, 0, -1));
        Due.is("no face first", NO_SUCH, x.kinds(0, 2, 2));
        Due.is("its KIND is as it was", 0, x.told(0, 2));
        GoneRed y = Due.world("warms more; cools 0; looks 0;");
        y.face(0, 0, 0);
        tell(y, 0, 45);
        Due.is("MORE 9", 512, y.kinds(0, 0, 1));
        tell(y, 0, 0);
        Due.is("MORE 0", 1, y.kinds(0, 0, 1));
        Due.is("all KINDS but the WINED", 31, y.kinds(0, 0, 0));
    }

    private static void laws() {
        Due.part("39 laws");
        GoneRed x = Due.world(SEVEN);
        refuse("laws", x, s -> x.laws(s, 0));
        tell(x, 0, 35);
        Due.is("no face", NO_SUCH, x.laws(0, 0));
        x.face(0, 0, 0);
        Due.text(x, STILL);
        Due.text(x, "warms 7; cools 0; looks 0;");
        Due.is("1 and 3", 2 + 8, x.laws(0, 0));
        tell(x, 0, 0);
        Due.is("TEXT 0 and 2", 1 + 4, x.laws(0, 0));
        Due.text(x, STILL);
        Due.text(x, STILL);
        Due.is("and 4 and 5", 1 + 4 + 16 + 32, x.laws(0, 0));
        tell(x, 0, 1);
        Due.is("none", 0, x.laws(0, 0));
        Due.is("no face", NO_SUCH, x.laws(0, 1));
        Due.is("THE LAW stays", 1, x.count(3));
    }

    private static void film() {
        Due.part("40 film");
        GoneRed x = Due.world(SEVEN);
        Due.is("sheet", BAD, x.film(4, 0, 0));
        Due.is("sheet first", BAD, x.film(-1, 0, 9));
        Due.is("no face first", NO_SUCH, x.film(0, 0, 9));
        x.face(0, 0, 0);
        x.face(0, 1, 1);
        Due.is("n", NOT_TOLD, x.film(0, 0, 9));
        Due.is("n", NOT_TOLD, x.film(0, 0, -1));
        Due.is("missing still", -11, x.cell(0, 0, 0));
        Due.is("eight", 8, x.film(0, 0, 8));
        Due.is("of the first", 1, x.whose(0));
        Due.is("eight of them", -12, x.cell(0, 8, 0));
        x.cell(0, 7, 281);
        Due.is("the eighth", 7, x.judge(0, 0));
        Due.is("ints", -13, x.facesBy(0, 1, 0, 0));
        Due.is("ints", 0, x.facesBy(0, 2, 0, 0));
        Due.is("two", 2, x.film(0, 1, 2));
        Due.is("of the second", 2, x.whose(0));
        Due.is("two of them", -12, x.cell(0, 2, 0));
        x.sheet(1, 0, 40);
        Due.is("none", 0, x.film(1, 1, 0));
        Due.is("none of them", -12, x.cell(1, 0, 0));
        Due.is("all", 3, x.whose(1));
    }

    private static void drawn() {
        Due.part("41 drawn");
        GoneRed x = Due.world(STILL);
        Due.is("nobody", 0, x.drawn(0, 400));
        for (int f = 0; f < 5; f++) {
            x.face(0, 0, f);
        }
        // LOTS of seed 0: 48271, 182605794, 1291394886, 1914720637, 2078669041
        Due.is("seconds 31, 34, 6, 77, 1: the fourth is none", 23, x.drawn(0, 60));
        Due.is("59 is not red", 0, x.drawn(0, 59));
        Due.is("0", 0, x.drawn(0, 0));
        // of seed 1: 96542, 365211588, 435306125, 1681957627, 2009854435
        Due.is("seconds 62, 68, 45, 27, 35", 24, x.drawn(1, 400));
        Due.is("seed", BAD, x.drawn(-1, 0));
        Due.is("seed", BAD, x.drawn(100000, 0));
        Due.is("much", BAD, x.drawn(0, 401));
        Due.is("much", BAD, x.drawn(0, -1));
        // of seed 99999: 532132706, 525949559, 559487655, 274249833, 1224488635
        Due.is("seconds 66, 39, 55, 73, 75", 2, x.drawn(99999, 60));
        GoneRed y = Due.world("warms 0; cools 99; looks 0;");
        for (int f = 0; f < 5; f++) {
            y.face(0, 0, f);
        }
        Due.is("it has been red behind its second, whatever cools", 23, y.drawn(0, 60));
        y.warm(3, 160);
        Due.is("red behind the first second alone", 31, y.drawn(0, 60));
        GoneRed z = Due.world("warms glances * 99; cools 0; looks 399 < warmth and second = 32;");
        z.face(0, 350, 0);
        z.face(0, 0, 1);
        Due.is("400 at most", 1, z.drawn(0, 51));
    }

    private static void odds() {
        Due.part("42 odds");
        GoneRed x = Due.world(STILL);
        Due.is("no face", NO, x.odds(0, 1, 0, 0));
        for (int f = 0; f < 5; f++) {
            x.face(0, 0, f);
        }
        Due.is("0: red by seed 0", 1, x.odds(0, 1, 60, 0));
        Due.is("of 1", 1, x.odds(0, 1, 60, 1));
        Due.is("0: 31, 62", 1, x.odds(0, 2, 60, 0));
        Due.is("of 2", 2, x.odds(0, 2, 60, 1));
        // the first LOT of seed s is (s + 1) times 48271: modulo 80 31, 62, 13, 44
        Due.is("0: 31, 62, 13, 44: 2 of 4", 1, x.odds(0, 4, 60, 0));
        Due.is("in lowest terms", 2, x.odds(0, 4, 60, 1));
        Due.is("3: 77, 27", 1, x.odds(0, 2, 60, 30));
        Due.is("of 2", 2, x.odds(0, 2, 60, 31));
        Due.is("none: 0", 0, x.odds(0, 20, 59, 0));
        Due.is("of 1", 1, x.odds(0, 20, 59, 1));
        GoneRed y = Due.world("warms 0; cools 99; looks 0;");
        y.face(0, 0, 0);
        Due.is("red once is red", 1, y.odds(0, 1, 60, 0));
        Due.is("seed", NO, x.odds(-1, 1, 60, 0));
        Due.is("seed", NO, x.odds(100000, 1, 60, 0));
        Due.is("seeds", NO, x.odds(0, 0, 60, 0));
        Due.is("seeds", NO, x.odds(0, 21, 60, 0));
        Due.is("much", NO, x.odds(0, 1, 401, 0));
        Due.is("much", NO, x.odds(0, 1, -1, 0));
        Due.is("face", NO, x.odds(0, 1, 60, 50));
        Due.is("face", NO, x.odds(0, 1, 60, -1));
        Due.is("part", NO, x.odds(0, 1, 60, 2));
        // seeds 99999, 100000, 100001: first LOTS modulo 80 of 100000, 100001, 100002 times 48271
        int red = 0;
        for (long s = 100000; s <= 100002; s++) {
            red += s * 48271L % 2147483647L % 80 < 40 ? 1 : 0;
        }
        Due.is("seeds may pass 99999", red % 3 == 0 ? red / 3 : red, x.odds(99999, 3, 60, 0));
    }

    private static void imageAndBack() {
        Due.part("43 image, 44 back");
        GoneRed x = Due.world(SEVEN);
        Due.is("none", STATE, x.back());
        x.face(34, 10, 0);
        x.face(0, 20, 1);
        x.lamp(2, 5);
        x.cause(3, 1, 30);
        Due.is("two faces", 2, x.image());
        x.warm(0, 11);
        x.sit(0, 5);
        x.lamp(2, 6);
        x.lamp(3, 1);
        x.uncause();
        x.cause(4, 0, 31);
        x.cause(5, 0, 32);
        x.face(0, 0, 7);
        x.force(0);
        Due.text(x, STILL);
        x.force(2);
        Due.is("back to two", 2, x.back());
        Due.is("WARMTH", 10, x.told(0, 0));
        Due.is("SEAT", 0, x.told(0, 1));
        Due.is("KIND", 3, x.told(0, 2));
        Due.is("MORE", 4, x.told(0, 3));
        Due.is("LIGHT", 5, x.lamp(2, 5));
        Due.is("LIGHT", 0, x.lamp(3, 0));
        Due.is("CAUSES", 1, x.count(1));
        Due.is("SECOND", 3, x.causeTold(0, 0));
        Due.is("FACE", 1, x.causeTold(0, 1));
        Due.is("MUCH", 30, x.causeTold(0, 2));
        Due.is("THE LAW", 1, x.count(3));
        Due.is("TEXTS stay", 3, x.count(2));
        Due.is("the later face is none", NO_SUCH, x.told(2, 0));
        Due.is("its seat is free", 2, x.face(25, 7, 7));
        Due.is("of its own kind", 2, x.told(2, 2));
        x.warm(0, 99);
        Due.is("back once more", 2, x.back());
        Due.is("WARMTH", 10, x.told(0, 0));
        x.warm(0, 98);
        x.face(0, 0, 6);
        Due.is("a later image", 3, x.image());
        x.warm(0, 1);
        Due.is("back to the later", 3, x.back());
        Due.is("WARMTH", 98, x.told(0, 0));
        GoneRed y = new GoneRed();
        Due.is("nobody", 0, y.image());
        y.face(0, 0, 0);
        Due.is("nobody again", 0, y.back());
        Due.is("none", NO_SUCH, y.told(0, 0));
    }

    private static void sheet() {
        Due.part("45 sheet");
        GoneRed x = new GoneRed();
        Due.is("sheet", BAD, x.sheet(4, 0, 0));
        Due.is("sheet", BAD, x.sheet(-1, 0, 0));
        Due.is("sort", BAD, x.sheet(0, 3, 0));
        Due.is("sort", BAD, x.sheet(0, -2, 0));
        Due.is("above", BAD, x.sheet(0, 0, 41));
        Due.is("below 0", -14, x.sheet(0, 0, -1));
        Due.is("below 0", -14, x.sheet(0, 2, LOW));
        Due.is("BAD first", BAD, x.sheet(0, 3, -1));
        Due.is("missing still", -11, x.cell(0, 0, 0));
        Due.is("40", 1, x.sheet(3, 1, 40));
        Due.is("the last", 1, x.cell(3, 39, 5));
        Due.is("outside", -12, x.cell(3, 40, 5));
        Due.is("anew", 1, x.sheet(3, 1, 40));
        x.sheet(0, 1, 8);
        x.copy(3, 32, 0, 0, 8);
        x.face(0, 0, 0);
        x.force(Due.text(x, STILL));
        Due.is("all 0", -1, x.judge(0, 0));
        x.sheet(0, 1, 1);
        x.cell(0, 0, 7);
        x.sheet(0, 1, 8);
        Due.is("all 0 anew", -1, x.judge(0, 0));
        Due.is("n does not matter", 1, x.sheet(3, -1, 41));
        Due.is("missing", -11, x.cell(3, 0, 0));
        Due.is("n does not matter", 1, x.sheet(3, -1, LOW));
        Due.is("of none", 1, x.sheet(3, 0, 0));
        Due.is("outside", -12, x.cell(3, 0, 0));
        Due.is("a refusal changes nothing", -14, x.sheet(0, 0, -1));
        Due.is("as it was", 1, x.cell(0, 7, 0));
    }

    /** Whether a SHEET of ints tells v at a place: a copy of it alone is judged of a FACE so warm. */
    private static boolean holds(GoneRed x, int s, int i, int v) {
        x.sheet(1, 2, 1);
        x.warm(0, v);
        return x.copy(s, i, 1, 0, 1) == 1 && x.judge(1, 0) == -1;
    }

    private static void cell() {
        Due.part("46 cell");
        GoneRed x = Due.world(STILL);
        x.face(0, 0, 0);
        Due.is("sheet", BAD, x.cell(4, 0, 0));
        Due.is("sheet", BAD, x.cell(-1, 0, 0));
        Due.is("missing", -11, x.cell(0, -1, 0));
        x.sheet(0, 2, 2);
        Due.is("outside", -12, x.cell(0, 2, 0));
        Due.is("outside", -12, x.cell(0, -1, 0));
        Due.is("outside", -12, x.cell(0, HIGH, 0));
        Due.is("first", 1, x.cell(0, 0, 300));
        Due.is("second", 1, x.cell(0, 1, 17));
        Due.that("first is 300", holds(x, 0, 0, 300));
        Due.that("second is 17", holds(x, 0, 1, 17));
        x.cell(0, 0, 65536 + 300);
        Due.that("ints are whole", !holds(x, 0, 0, 300));
        for (int sort = 0; sort < 2; sort++) {
            x.sheet(0, sort, 1);
            x.cell(0, 0, 65536 * 3 + 70);
            x.warm(0, 70);
            Due.is("the lowest bits", -1, x.judge(0, 0));
            x.cell(0, 0, 65536 + 256 + 70);
            x.warm(0, sort == 0 ? 70 : 326);
            Due.is("8 or 16", -1, x.judge(0, 0));
            x.cell(0, 0, sort == 0 ? 200 : 40000);
            x.warm(0, 200);
            Due.is("the highest is the sign", 0, x.judge(0, 0));
        }
    }

    private static void copy() {
        Due.part("47 copy");
        GoneRed x = Due.world(STILL);
        x.face(0, 0, 0);
        x.sheet(0, 2, 5);
        for (int i = 0; i < 5; i++) {
            x.cell(0, i, 11 * (i + 1));
        }
        x.sheet(1, 1, 5);
        Due.is("sheet", BAD, x.copy(4, 0, 0, 0, 0));
        Due.is("sheet", BAD, x.copy(0, 0, -1, 0, 0));
        Due.is("BAD ahead of -11", BAD, x.copy(2, 0, 4, 0, 0));
        Due.is("missing", -11, x.copy(2, 0, 0, 0, 0));
        Due.is("missing", -11, x.copy(0, 0, 2, -1, 0));
        Due.is("unlike sorts", -13, x.copy(0, 0, 1, 0, 1));
        Due.is("-13 ahead of -12", -13, x.copy(0, 9, 1, 0, 1));
        Due.is("outside", -12, x.copy(0, -1, 0, 0, 1));
        Due.is("outside", -12, x.copy(0, 0, 0, -1, 1));
        Due.is("outside", -12, x.copy(0, 0, 0, 0, -1));
        Due.is("outside", -12, x.copy(0, 1, 0, 0, 5));
        Due.is("outside", -12, x.copy(0, 0, 0, 1, 5));
        Due.is("outside", -12, x.copy(0, HIGH, 0, 0, HIGH));
        Due.is("outside", -12, x.copy(0, 6, 0, 0, 0));
        Due.is("none at the end", 0, x.copy(0, 5, 0, 5, 0));
        Due.is("all on itself", 5, x.copy(0, 0, 0, 0, 5));
        Due.is("up", 4, x.copy(0, 0, 0, 1, 4));
        int[] up = {11, 11, 22, 33, 44};
        for (int i = 0; i < 5; i++) {
            Due.that("as they were, up " + i, holds(x, 0, i, up[i]));
        }
        Due.is("down", 3, x.copy(0, 2, 0, 0, 3));
        int[] down = {22, 33, 44, 33, 44};
        for (int i = 0; i < 5; i++) {
            Due.that("as they were, down " + i, holds(x, 0, i, down[i]));
        }
        x.sheet(3, 2, 2);
        Due.is("to another", 1, x.copy(0, 1, 3, 1, 1));
        Due.that("it came", holds(x, 3, 1, 33));
        Due.that("nothing else", holds(x, 3, 0, 0));
    }

    private static void facesBy() {
        Due.part("48 facesBy");
        GoneRed x = new GoneRed();
        Due.is("sheet", BAD, x.facesBy(4, 2, 0, 1));
        Due.is("sort", BAD, x.facesBy(0, 3, 0, 1));
        Due.is("sort", BAD, x.facesBy(0, -1, 0, 1));
        Due.is("n", BAD, x.facesBy(0, 2, 0, 6));
        Due.is("n", BAD, x.facesBy(0, 2, 0, -1));
        Due.is("missing", -11, x.facesBy(0, 2, 0, 1));
        tell(x, 0, 99, 21, 5, 3, 60, 5, 4, 43, 300, 7, 0, 0);
        Due.is("another sort", -13, x.facesBy(0, 1, 0, 1));
        Due.is("-13 ahead of -12", -13, x.facesBy(0, 1, -1, 1));
        Due.is("outside", -12, x.facesBy(0, 2, -1, 1));
        Due.is("outside", -12, x.facesBy(0, 2, 10, 1));
        Due.is("outside", -12, x.facesBy(0, 2, HIGH, 1));
        Due.is("outside", -12, x.facesBy(0, 2, HIGH - 2, 5));
        Due.is("none", 0, x.facesBy(0, 2, 0, 0));
        Due.is("nobody came", 0, x.count(0));
        Due.is("BAD ones are left out", 2, x.facesBy(0, 2, 1, 3));
        Due.is("KIND", 2, x.told(0, 2));
        Due.is("MORE", 1, x.told(0, 3));
        Due.is("WARMTH", 5, x.told(0, 0));
        Due.is("SEAT", 3, x.told(0, 1));
        Due.is("KIND", 4, x.told(1, 2));
        Due.is("WARMTH", 300, x.told(1, 0));
        Due.is("SEAT", 7, x.told(1, 1));
        tell(x, 0, 0, 1, 0, 0, 2, 0, 0, 3, 1, 0, 4);
        Due.is("what stood ahead came", -12, x.facesBy(0, 2, 0, 4));
        Due.is("two came", 4, x.count(0));
        Due.is("the second of a seat is left out", 1, x.told(2, 0));
        tell(x, 0, 0, 1, 2, 0, 1, 4);
        Due.is("full ones are left out", 1, x.facesBy(0, 2, 0, 2));
        Due.is("five", 5, x.count(0));
        GoneRed y = new GoneRed();
        y.sheet(1, 1, 3);
        y.cell(1, 1, 300);
        Due.is("shorts", 1, y.facesBy(1, 1, 0, 1));
        Due.is("300", 300, y.told(0, 0));
        y.sheet(1, 0, 3);
        y.cell(1, 1, 200);
        y.cell(1, 2, 1);
        Due.is("a byte below 0 is BAD", 0, y.facesBy(1, 0, 0, 1));
        y.cell(1, 1, 127);
        Due.is("bytes", 1, y.facesBy(1, 0, 0, 1));
    }

    private static void taken() {
        Due.part("49 taken");
        int[][] are = {{0}, {0, 1}, {0, 2}, {0, 1, 3}, {0, 2, 4}, {0, 5}};
        for (int kind = 0; kind < 6; kind++) {
            GoneRed x = new GoneRed();
            x.face(0, 0, 0);
            x.face(10 * kind, 0, 1);
            for (int as = 0; as < 6; as++) {
                boolean is = false;
                for (int one : are[kind]) {
                    is |= one == as;
                }
                Due.is(kind + " as " + as, is ? 1 : -13, x.taken(9, as));
            }
            Due.is("a face as a seat", -13, x.taken(9, 6));
        }
        GoneRed x = new GoneRed();
        for (int f = 0; f < 5; f++) {
            Due.is("nobody yet", -11, x.taken(8 + f, 0));
            x.face(0, 0, f);
            Due.is("its number", f, x.taken(8 + f, 0));
        }
        x.lamp(0, 1);
        x.lamp(7, 9);
        Due.is("how LIGHT", 1, x.taken(0, 6));
        Due.is("how LIGHT", 9, x.taken(7, 6));
        Due.is("dark", -11, x.taken(1, 6));
        Due.is("dark, as a face", -11, x.taken(1, 0));
        Due.is("a seat as a face", -13, x.taken(0, 0));
        Due.is("kind", BAD, x.taken(0, 7));
        Due.is("kind first", BAD, x.taken(13, -1));
        Due.is("outside", -12, x.taken(13, 6));
        Due.is("outside", -12, x.taken(-1, 0));
        Due.is("outside", -12, x.taken(HIGH, 0));
    }
}
