// Promises 1 to 6, and 28 where it counts the text: a new object, type, clear, valley, house, dish.
public final class ValleyTest {
    private static final String HOUSE = "house 0 0 0 0 0;";
    private static final String DISH = "dish 0 0 0 0 0 0 0;";

    public static void main(String[] args) {
        aNewObject();
        typing();
        typingUntilFull();
        clearing();
        goodTexts();
        faults();
        tooMany();
        aFaultChangesNothing();
        readAnew();
        readAnewWithFewer();
        houses();
        dishes();
        Checks.end();
    }

    private static void aNewObject() {
        SmokeTalk x = new SmokeTalk();
        for (int what = 0; what <= 4; what++) Checks.due("new count(" + what + ")", x.count(what), 0);
        Checks.due("new lot", x.lot(1), 1);
        Checks.due("new trace", x.trace(), 0);
        Checks.due("new house", x.house(0, 0), -1);
        Checks.due("new dish", x.dish(0, 0), -1);
        Checks.due("new back(0)", x.back(0), -2);
        Checks.due("new back(1)", x.back(1), -2);
        Checks.due("new undo", x.undo(), -2);
        Checks.due("two objects share nothing", new SmokeTalk().count(4), 0);
    }

    private static void typing() {
        SmokeTalk x = new SmokeTalk();
        Checks.due("type n = 0", x.type(65, 0), -1);
        Checks.due("type n = 9", x.type(65, 9), -1);
        Checks.due("type n = -1", x.type(65, -1), -1);
        Checks.due("type least n", x.type(65, Integer.MIN_VALUE), -1);
        Checks.due("type most n", x.type(65, Integer.MAX_VALUE), -1);
        Checks.due("nothing typed", x.count(4), 0);
        // The bytes above the lowest n are left out, the highest of the lowest n comes first.
        Checks.due("type fog", x.type(0x7A7A666F67L, 3), 3);
        Checks.due("type  3;", x.type(0x2033L, 2), 5);
        Checks.due("type ;", x.type(0x3B, 1), 6);
        Checks.due("valley", x.valley(), 1);
        Checks.due("fog told", x.count(3), 3);
        Checks.due("type of a number below 0", x.type(-1L, 8), 8);
        Checks.due("bytes 255 begin no TOKEN", x.valley(), -10);
    }

    private static void typingUntilFull() {
        SmokeTalk x = new SmokeTalk();
        for (int i = 1; i <= 37; i++) Checks.due("type of 8", x.type(0x2020202020202020L, 8), 8 * i);
        Checks.due("type 5 above 296", x.type(0, 5), -3);
        Checks.due("type 8 above 296", x.type(0, 8), -3);
        Checks.due("BAD ahead of FULL", x.type(0, 9), -1);
        Checks.due("full changes nothing", x.count(4), 296);
        Checks.due("type to 300", x.type(0x20202020L, 4), 300);
        Checks.due("type above 300", x.type(0, 1), -3);
        Checks.due("300 blanks tell nothing", x.valley(), 0);
        Checks.due("and are gone", x.count(4), 0);
        Checks.due("type again", x.type(0x20, 1), 1);

        SmokeTalk y = new SmokeTalk();
        StringBuilder text = new StringBuilder();
        for (int i = 0; i < 296; i++) text.append(' ');
        Checks.type(y, text.append("fog ").toString());
        Checks.due("a FAULT at the very end", y.valley(), -10 - 300);
    }

    private static void clearing() {
        SmokeTalk x = new SmokeTalk();
        Checks.due("clear of nothing", x.clear(), 0);
        Checks.type(x, "fog 4;");
        Checks.due("count of bytes", x.count(4), 6);
        Checks.due("clear", x.clear(), 6);
        Checks.due("clear again", x.clear(), 0);
        Checks.due("nothing left", x.count(4), 0);
        Checks.due("nothing told", x.valley(), 0);
        Checks.due("no fog", x.count(3), 0);
        Checks.tell(x, "house 1 2 3 4 5; fog 2;");
        Checks.type(x, "x");
        Checks.due("clear leaves the valley", x.clear(), 1);
        Checks.due("its house", x.house(0, 5), 15);
    }

    private static void goodTexts() {
        good("", 0, 0, 0, 0);
        good("   ", 0, 0, 0, 0);
        good("fog 5;", 1, 0, 0, 5);
        good("fog5;", 1, 0, 0, 5);
        good("fog 0;", 1, 0, 0, 0);
        good("  fog   5   ;   ", 1, 0, 0, 5);
        good("house1 2 3 4 5;", 1, 1, 0, 0);
        good("house 9 9 9 9 9;dish 9 9 9 9 9 7 7;fog 5;", 3, 1, 1, 5);
        good("dish 0 0 0 0 0 0 0;fog1;house 0 0 0 0 0;dish 1 1 1 1 1 1 1 ;", 4, 1, 2, 1);
        good(HOUSE.repeat(6) + DISH.repeat(8), 14, 6, 8, 0);
        good(HOUSE.repeat(6) + "fog 2;" + DISH.repeat(8), 15, 6, 8, 2);
    }

    private static void good(String text, int items, int houses, int dishes, int fog) {
        SmokeTalk x = new SmokeTalk();
        Checks.due("valley of " + text, Checks.tell(x, text), items);
        Checks.due("houses of " + text, x.count(0), houses);
        Checks.due("dishes of " + text, x.count(1), dishes);
        Checks.due("fog of " + text, x.count(3), fog);
        Checks.due("bytes after " + text, x.count(4), 0);
    }

    private static void faults() {
        // Ended too early: the text's length, the blanks at its end with it.
        fault("fog", 3);
        fault("fog ", 4);
        fault("fog 5", 5);
        fault("fog 5  ", 7);
        fault("house 1 2 3 4", 13);
        fault("house 1 2 3 4 5", 15);
        fault("dish 1 2 3 4 5 6", 16);
        fault("fog 1;house", 11);
        // TOKENS that can't stand there.
        fault(";", 0);
        fault("7", 0);
        fault("fog;", 3);
        fault("fog fog", 4);
        fault("fog 1 2;", 6);
        fault("fog 1;;", 6);
        fault("fog 1; ;", 7);
        fault("house 1 2 3 4 ;", 14);
        fault("house 1 2 3 4 5 6;", 16);
        fault("dish 1 2 3 4 5;", 14);
        fault("dish 1 2 3 4 5 6 7 0;", 19);
        fault("house 1 2 dish", 10);
        // NUMBERS beyond what they may be, at each place.
        fault("house 10 2 3 4 5;", 6);
        fault("house 1 2 3 4 10;", 14);
        fault("dish 10 0 0 0 0 0 0;", 5);
        fault("dish 0 0 0 0 10 0 0;", 13);
        fault("dish 0 0 0 0 0 8 0;", 15);
        fault("dish 0 0 0 0 0 0 8;", 17);
        fault("fog 6;", 4);
        fault("fog 99;", 4);
        // NUMBERS above 99 or with a 0 ahead of others.
        fault("fog 100;", 4);
        fault("fog 01;", 4);
        fault("fog 00;", 4);
        fault("fog 000000000001;", 4);
        fault("fog 4294967297;", 4);
        fault("house 1 2 3 4 5 05;", 16);
        // Words that are none of these, and bytes that begin no TOKEN.
        fault("fogs 1;", 0);
        fault("fo 1;", 0);
        fault("f", 0);
        fault("hous", 0);
        fault("housefog 1;", 0);
        fault("dishes", 0);
        fault("mouse 1 2 3 4 5;", 0);
        fault("fish 1 2 3 4 5 6 7;", 0);
        fault("dog 1;", 0);
        fault("foga 1;", 0);
        fault("fogz 1;", 0);
        fault("zfog 1;", 0);
        fault("fog a;", 4);
        fault("fog z;", 4);
        fault("fog 1a;", 5);
        fault("fog 1; feg 2;", 7);
        fault("Fog 1;", 0);
        fault("fOg 1;", 0);
        fault("foG 1;", 0);
        fault("fog\t1;", 3);
        fault("fog 1\n;", 5);
        fault("fog -1;", 4);
        fault("fog 1:", 5);
        fault("\0", 0);
        fault("fog 1;\u00e9", 6);
        fault(" /", 1);
        fault("`", 0);
        fault("{", 0);
        fault("fog 1;fog 1;", 6);
    }

    private static void fault(String text, int at) {
        SmokeTalk x = new SmokeTalk();
        Checks.due("valley of " + text, Checks.tell(x, text), -10 - at);
        Checks.due("THE TEXT stays: " + text, x.count(4), text.length());
        Checks.due("valley again of " + text, x.valley(), -10 - at);
    }

    private static void tooMany() {
        fault(HOUSE.repeat(7), 6 * HOUSE.length());
        fault(HOUSE.repeat(6) + " house", 6 * HOUSE.length() + 1);
        fault(DISH.repeat(9), 8 * DISH.length());
        fault(DISH.repeat(8) + HOUSE + "dish 9", 8 * DISH.length() + HOUSE.length());
    }

    private static void aFaultChangesNothing() {
        SmokeTalk x = Checks.told("house 5 4 3 2 1; house 1 1 1 1 1; dish 1 0 0 0 0 3 4; fog 2;");
        x.cook(0, 0);
        x.keep(0);
        Checks.due("a fault at its end", Checks.tell(x, "house 0 0 0 0 0; dish 9 9 9 9 9 7 7; fog 5; fog"), -10 - 44);
        Checks.due("houses stay", x.count(0), 2);
        Checks.due("dishes stay", x.count(1), 1);
        Checks.due("plumes stay", x.count(2), 1);
        Checks.due("fog stays", x.count(3), 2);
        Checks.due("a larder stays", x.house(0, 0), 4);
        Checks.due("a dish stays", x.dish(0, 7), 1);
        Checks.due("images stay", x.back(0), 1);
        Checks.due("what is typed behind comes to the text", x.type(0x20, 1), 48);
    }

    private static void readAnew() {
        SmokeTalk x = Checks.told("house 5 4 3 2 1; house 1 1 1 1 1; dish 1 0 0 0 0 3 4; dish 0 0 0 0 0 1 1; fog 2;");
        x.cook(0, 0);
        x.keep(0);
        x.keep(1);
        x.lot(77);
        x.mark(1, 0);
        Checks.due("valley", Checks.tell(x, "house 9 0 0 0 0;"), 1);
        Checks.due("houses as told", x.count(0), 1);
        Checks.due("larders as told", x.house(0, 5), 9);
        Checks.due("no house 1", x.house(1, 0), -1);
        Checks.due("no dishes", x.count(1), 0);
        Checks.due("no dish 0", x.dish(0, 0), -1);
        Checks.due("no plumes", x.count(2), 0);
        Checks.due("no fog", x.count(3), 0);
        Checks.due("image 0 is gone", x.back(0), -2);
        Checks.due("image 1 is gone", x.back(1), -2);
        Checks.due("the lot stays", x.lot(5), 77);
        Checks.due("the trace stays", x.trace(), 11);
        Checks.due("nothing to undo", x.undo(), -2);
        Checks.due("valley of no text", x.valley(), 0);
        Checks.due("no houses", x.count(0), 0);
        Checks.due("the lot stays again", x.lot(5), 5);
    }

    // Nothing of the HOUSES and DISHES of an earlier text is left behind those of a shorter one.
    private static void readAnewWithFewer() {
        SmokeTalk x = Checks.told("house 9 9 9 9 9; house 9 9 9 9 9; dish 0 0 0 0 0 1 1; dish 0 0 0 0 0 2 2; dish 1 0 0 0 0 0 3; fog 1;");
        Checks.tell(x, "house 0 0 0 0 0; dish 0 0 0 0 0 1 1;");
        Checks.due("the smoke of a dish that was", x.means(2), -9);
        Checks.due("the word of a dish that was", x.says(0, 2, -1, -1, -1), -9);
        Checks.due("nearest by it", x.nearest(0, 2, 1, -1), 2);
        Checks.due("chain of it", x.chain(2, 1, 0), 0);
        Checks.due("code by it", x.code(6, 1, 0), -9);
        Checks.due("most by it", x.code(6, 1, 1), 1);
        Checks.due("feast of it alone", x.feast(2, 0), -1);
        Checks.due("feast with it", x.feast(3, 0), 1);
        Checks.due("mark of it", x.mark(0, 1), -1000000);
        Checks.due("who of one house", x.who(1, 0, 1), 1);
        Checks.due("who of a house that was", x.who(1, 1, 0), -1);
        Checks.due("silent", x.silent(1), 1);
        Checks.tell(x, "house 0 0 0 0 0; dish 1 0 0 0 0 1 1;");
        Checks.due("a larder that was can none", x.who(1, 0, 0), -2);
        Checks.due("days by a dish that was", x.days(0), 0);
        Checks.tell(x, "house 9 9 9 9 9; house 9 9 9 9 9; dish 1 0 0 0 0 1 1; dish 0 0 0 0 0 1 1;");
        Checks.tell(x, "house 1 0 0 0 0; dish 1 0 0 0 0 1 1;");
        Checks.due("of the one house alone", x.who(1, 0, 1), 1);
        Checks.due("one day", x.days(0), 1);
        Checks.due("one unit", x.says(0, 1, -1, -1, -1), 1);
    }

    private static void houses() {
        SmokeTalk x = Checks.told("house 0 1 2 3 4; house 9 8 7 6 5;");
        for (int g = 0; g < 5; g++) {
            Checks.due("house(0, " + g + ")", x.house(0, g), g);
            Checks.due("house(1, " + g + ")", x.house(1, g), 9 - g);
        }
        Checks.due("all of 0", x.house(0, 5), 10);
        Checks.due("all of 1", x.house(1, 5), 35);
        Checks.due("house -1", x.house(-1, 0), -1);
        Checks.due("house 2", x.house(2, 0), -1);
        Checks.due("house most", x.house(Integer.MAX_VALUE, 0), -1);
        Checks.due("house least", x.house(Integer.MIN_VALUE, 0), -1);
        Checks.due("what -1", x.house(0, -1), -1);
        Checks.due("what 6", x.house(0, 6), -1);
    }

    private static void dishes() {
        SmokeTalk x = Checks.told("dish 0 1 2 3 4 6 5; dish 9 9 9 9 9 0 7;");
        for (int what = 0; what < 5; what++) {
            Checks.due("dish(0, " + what + ")", x.dish(0, what), what);
            Checks.due("dish(1, " + what + ")", x.dish(1, what), 9);
        }
        Checks.due("smoke of 0", x.dish(0, 5), 6);
        Checks.due("word of 0", x.dish(0, 6), 5);
        Checks.due("units of 0", x.dish(0, 7), 10);
        Checks.due("smoke of 1", x.dish(1, 5), 0);
        Checks.due("word of 1", x.dish(1, 6), 7);
        Checks.due("units of 1", x.dish(1, 7), 45);
        Checks.due("what 8", x.dish(0, 8), -1);
        Checks.due("what -1", x.dish(0, -1), -1);
        Checks.due("dish 2", x.dish(2, 0), -1);
        Checks.due("dish -1", x.dish(-1, 0), -1);
        Checks.due("what least", x.dish(0, Integer.MIN_VALUE), -1);
    }
}
