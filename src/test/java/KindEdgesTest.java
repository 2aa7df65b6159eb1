// The sentences of the document that name an edge of kinds and images, each with a test of its own
// (promises 25 to 29), and that of the 512 calls. The sentence stands above its test.
public final class KindEdgesTest {
    public static void main(String[] args) {
        marksOfEachKind();
        marksAtTheirEdges();
        marksAreOfDishes();
        traceOfEachKind();
        traceOfAllCallsEver();
        traceOfRefused();
        imagesKeepLarders();
        imagesKeepPlumes();
        imagesKeepFogAndLot();
        imagesKeepNothingElse();
        imagesAreTwo();
        imagesStayAsKept();
        noneWasKept();
        imagesAreGone();
        readAnew();
        countsAtTheirEdges();
        fiveHundredAndTwelveCalls();
        Checks.end();
    }

    // "MARK of a DISH as if of a KIND": DISH, STEW, ROAST, BRIDE'S, POOR, BURNT
    private static void marksOfEachKind() {
        SmokeTalk x = Checks.told("house 0 0 0 0 0;dish 0 0 0 0 0 3 2;dish 1 2 3 4 5 6 7;dish 9 0 0 0 1 0 0;");
        for (int plumes = 0; plumes <= 20; plumes++) {
            int[] units = {0, 15, 10};
            int[] smokes = {3, 6, 0};
            int[] words = {2, 7, 0};
            for (int d = 0; d < 3; d++) {
                String name = " of dish " + d + ", plumes " + plumes;
                if (plumes % 20 == 0) {
                    Checks.due("DISH" + name, x.mark(0, d), units[d]);
                    Checks.due("STEW" + name, x.mark(1, d), 2 * units[d]);
                    Checks.due("ROAST" + name, x.mark(2, d), units[d] + smokes[d]);
                    Checks.due("BRIDE'S" + name, x.mark(3, d), 2 * units[d] + d);
                    Checks.due("POOR" + name, x.mark(4, d), units[d] + smokes[d] - words[d]);
                }
                Checks.due("BURNT" + name, x.mark(5, d), units[d] + plumes);
            }
            x.cook(0, 0);
        }
    }

    private static void marksAtTheirEdges() {
        String text = "dish 0 0 0 0 0 0 7;".repeat(7) + "dish 9 9 9 9 9 7 0;";
        SmokeTalk x = Checks.told("house 0 0 0 0 0;" + text);
        int[] least = {0, 0, 0, 0, -7, 0};
        int[] most = {45, 90, 52, 97, 52, 45};
        for (int kind = 0; kind < 6; kind++) {
            Checks.due("least of kind " + kind, x.mark(kind, 0), least[kind]);
            Checks.due("most of kind " + kind, x.mark(kind, 7), most[kind]);
        }
        for (int i = 0; i < 20; i++) x.cook(0, 0);
        Checks.due("most of BURNT", x.mark(5, 7), 65);
        Checks.due("kind 6", x.mark(6, 7), -1000000);
        Checks.due("kind -1", x.mark(-1, 7), -1000000);
        Checks.due("dish 8", x.mark(0, 8), -1000000);
        Checks.due("dish -1", x.mark(0, -1), -1000000);
        for (int kind = 0; kind < 6; kind++) Checks.due("no dishes", new SmokeTalk().mark(kind, 0), -1000000);
    }

    // A mark asks no LARDER and no HOUSES; it cooks nothing.
    private static void marksAreOfDishes() {
        SmokeTalk x = Checks.told("dish 9 0 0 0 0 4 5;");
        Checks.due("without houses", x.mark(4, 0), 8);
        Checks.due("no plumes", x.count(2), 0);
        Checks.tell(x, "dish 1 0 0 0 0 4 5;");
        Checks.due("of the DISH as it is told anew", x.mark(4, 0), 0);
        Checks.due("that there is no more", x.mark(4, 1), -1000000);
    }

    // "numbers in brackets come to THE TRACE .. as often as mark() asks that body"
    private static void traceOfEachKind() {
        long[] due = {1, 11, 101, 1011, 10101, 100001};
        for (int kind = 0; kind < 6; kind++) {
            SmokeTalk x = Checks.told("dish 9 0 0 0 0 4 5;");
            Checks.due("0 at first", x.trace(), 0);
            x.mark(kind, 0);
            Checks.due("trace of kind " + kind, x.trace(), due[kind]);
            x.mark(kind, 0);
            Checks.due("trace of kind " + kind + " twice", x.trace(), 2 * due[kind]);
        }
    }

    // "(0 at first; of all calls ever, together)"
    private static void traceOfAllCallsEver() {
        SmokeTalk x = Checks.told("house 0 0 0 0 0;dish 0 0 0 0 0 4 5;");
        long due = 0;
        long[] each = {1, 11, 101, 1011, 10101, 100001};
        for (int i = 0; i < 400; i++) {
            int kind = i % 7 == 6 ? 5 : i % 7;
            x.mark(kind, 0);
            due += each[kind];
        }
        Checks.due("of 400 calls", x.trace(), due);
        SmokeTalk y = Checks.told("house 0 0 0 0 0;dish 0 0 0 0 0 4 5;");
        for (int i = 0; i < 480; i++) y.mark(5, 0);
        Checks.due("of 480 calls", y.trace(), 48000480);
        y.keep(0);
        y.mark(0, 0);
        y.back(0);
        Checks.due("an IMAGE keeps it not", y.trace(), 48000481);
        Checks.tell(y, "fog 1;");
        Checks.due("read anew it stays", y.trace(), 48000481);
        Checks.due("another object's is its own", new SmokeTalk().trace(), 0);
    }

    private static void traceOfRefused() {
        SmokeTalk x = Checks.told("dish 0 0 0 0 0 4 5;");
        for (int kind = -1; kind <= 6; kind++) {
            x.mark(kind, 1);
            x.mark(kind, -1);
        }
        x.mark(-1, 0);
        x.mark(6, 0);
        Checks.due("refused calls ask no body", x.trace(), 0);
    }

    // "IMAGES 0, 1 keep LARDERS"
    private static void imagesKeepLarders() {
        for (int image = 0; image < 2; image++) {
            SmokeTalk x = Checks.told("house 0 1 2 3 4;house 9 9 9 9 9;house 5 5 5 5 5;house 0 0 0 0 0;house 1 1 1 1 1;house 9 8 7 6 5;");
            Checks.due("keep", x.keep(image), 0);
            for (int h = 0; h < 6; h++) x.burns(h);
            Checks.due("back", x.back(image), 0);
            int[] all = {10, 45, 25, 0, 5, 35};
            for (int h = 0; h < 6; h++) {
                Checks.due("all of " + h, x.house(h, 5), all[h]);
                Checks.due("good 0 of " + h, x.house(h, 0), new int[] {0, 9, 5, 0, 1, 9}[h]);
                Checks.due("good 4 of " + h, x.house(h, 4), new int[] {4, 9, 5, 0, 1, 5}[h]);
            }
            x.gives(1, 3, 2, 9);
            x.back(image);
            Checks.due("given is not", x.house(3, 2), 0);
        }
    }

    // "keep .. PLUMES": "how many PLUMES", 0 and 20 too; and what was cooked for each
    private static void imagesKeepPlumes() {
        SmokeTalk x = Checks.told("house 9 9 9 9 9;house 9 9 9 9 9;dish 0 0 0 0 0 1 0;dish 0 0 0 0 1 2 0;");
        Checks.due("keep none", x.keep(0), 0);
        for (int i = 0; i < 20; i++) x.cook(i % 2, i / 2 % 2);
        Checks.due("keep twenty", x.keep(1), 20);
        Checks.due("back to none", x.back(0), 0);
        Checks.due("none", x.undo(), -2);
        Checks.due("no plume", x.plume(0, 0), -1);
        Checks.due("all are silent", x.silent(20), 3);
        for (int i = 0; i < 5; i++) x.cook(0, 1);
        Checks.due("back to twenty", x.back(1), 20);
        Checks.due("full", x.cook(0, 0), -3);
        for (int k = 0; k < 20; k++) {
            Checks.due("house of " + k, x.plume(k, 0), k % 2);
            Checks.due("smoke of " + k, x.plume(k, 1), 1 + k / 2 % 2);
        }
        Checks.due("goods as kept", x.house(0, 4), 4);
        for (int k = 19; k >= 0; k--) Checks.due("undo " + k, x.undo(), k);
        Checks.due("all goods are back", x.house(0, 5) + x.house(1, 5), 90);
    }

    // "keep .. FOG, THE LOT"
    private static void imagesKeepFogAndLot() {
        SmokeTalk x = new SmokeTalk();
        x.fog(5);
        x.lot(-7);
        x.keep(0);
        x.fog(0);
        x.lot(8);
        x.keep(1);
        x.fog(3);
        x.drawn(0);
        x.back(0);
        Checks.due("fog of 0", x.fog(1), 5);
        Checks.due("lot of 0", x.lot(2), -7);
        x.back(1);
        Checks.due("fog of 1", x.fog(1), 0);
        Checks.due("lot of 1", x.lot(2), 8);
    }

    // "nothing else": THE TEXT, DISHES, THE TRACE and the other IMAGE stay
    private static void imagesKeepNothingElse() {
        SmokeTalk x = Checks.told("house 1 1 1 1 1;dish 1 0 0 0 0 1 1;");
        x.keep(0);
        x.cook(0, 0);
        x.keep(1);
        x.mark(1, 0);
        Checks.type(x, "fog 3;");
        Checks.due("back", x.back(0), 0);
        Checks.due("the trace", x.trace(), 11);
        Checks.due("the text", x.count(4), 6);
        Checks.due("the dishes", x.count(1), 1);
        Checks.due("the other IMAGE", x.back(1), 1);
        Checks.due("the text is as it was typed", x.valley(), 1);
        Checks.due("and tells", x.count(3), 3);
    }

    private static void imagesAreTwo() {
        SmokeTalk x = new SmokeTalk();
        for (int image : new int[] {-1, 2, 3, Integer.MAX_VALUE, Integer.MIN_VALUE}) {
            Checks.due("keep " + image, x.keep(image), -1);
            Checks.due("back " + image, x.back(image), -1);
        }
        Checks.due("none was kept by these", x.back(0) + x.back(1), -4);
        Checks.due("keep 0", x.keep(0), 0);
        Checks.due("keep 1", x.keep(1), 0);
        Checks.due("back 0", x.back(0), 0);
        Checks.due("back 1", x.back(1), 0);
    }

    // "All of that becomes as an IMAGE has it": the IMAGE stays, and what changes then is not in it
    private static void imagesStayAsKept() {
        SmokeTalk x = Checks.told("house 9 9 9 9 9;house 0 0 0 0 0;dish 1 1 1 1 1 1 1;dish 0 0 0 0 0 2 2;fog 1;");
        x.cook(0, 0);
        x.keep(0);
        for (int i = 0; i < 3; i++) {
            x.cook(0, 0);
            x.cook(1, 1);
            x.gives(0, 1, 4, 2);
            x.fog(4);
            x.lot(99);
            Checks.due("back", x.back(0), 1);
            Checks.due("house 0", x.house(0, 5), 40);
            Checks.due("house 1", x.house(1, 5), 0);
            Checks.due("fog", x.count(3), 1);
            Checks.due("lot", x.lot(1), 1);
            Checks.due("undo", x.undo(), 0);
            Checks.due("goods back", x.house(0, 5), 45);
        }
        x.burns(0);
        Checks.due("kept anew", x.keep(0), 0);
        x.fog(0);
        Checks.due("back to the newer", x.back(0), 0);
        Checks.due("its larder", x.house(0, 5), 0);
        Checks.due("its fog", x.count(3), 1);
    }

    // "STATE: none was kept", of each IMAGE for itself
    private static void noneWasKept() {
        for (int image = 0; image < 2; image++) {
            SmokeTalk x = Checks.told("fog 2;");
            Checks.due("none", x.back(image), -2);
            x.keep(image);
            Checks.due("the other", x.back(1 - image), -2);
            Checks.due("this one", x.back(image), 0);
            Checks.due("this one again", x.back(image), 0);
            Checks.due("the other still", x.back(1 - image), -2);
        }
    }

    // "IMAGES are gone" where a text is read anew; not by a FAULT
    private static void imagesAreGone() {
        SmokeTalk x = Checks.told("house 1 1 1 1 1;");
        x.keep(0);
        x.keep(1);
        Checks.due("a FAULT", Checks.tell(x, "house 1 1 1 1 1"), -25);
        Checks.due("0 is there", x.back(0), 0);
        Checks.due("1 is there", x.back(1), 0);
        Checks.due("ended, and so read anew", Checks.tell(x, ";"), 1);
        Checks.due("0 is gone", x.back(0), -2);
        Checks.due("1 is gone", x.back(1), -2);
        Checks.due("kept again", x.keep(0), 0);
        Checks.due("of nothing", x.valley(), 0);
        Checks.due("gone by no ITEMS", x.back(0), -2);
        Checks.due("keep of no houses", x.keep(1), 0);
        Checks.tell(x, "house 2 2 2 2 2;");
        Checks.due("gone again", x.back(1), -2);
        Checks.due("as told", x.house(0, 5), 10);
    }

    // "LARDERS as told (what is not told as at first), no PLUMES, .. THE LOT .. stays; THE TRACE stays"
    private static void readAnew() {
        String text = "house 3 3 3 3 3;dish 1 1 1 1 1 1 1;fog 4;";
        SmokeTalk x = Checks.told(text);
        x.cook(0, 0);
        x.fog(5);
        x.lot(123);
        x.mark(3, 0);
        Checks.due("the same text again", Checks.tell(x, text), 3);
        Checks.due("larders as told", x.house(0, 5), 15);
        Checks.due("fog as told", x.count(3), 4);
        Checks.due("no plumes", x.count(2), 0);
        Checks.due("nothing to undo", x.undo(), -2);
        Checks.due("the lot stays", x.lot(0), 123);
        Checks.due("the trace stays", x.trace(), 1011);
        Checks.due("houses alone", Checks.tell(x, "house 1 0 0 0 0;"), 1);
        Checks.due("fog as at first", x.count(3), 0);
        Checks.due("dishes as at first", x.count(1), 0);
        Checks.due("dishes alone", Checks.tell(x, "dish 1 0 0 0 0 0 0;"), 1);
        Checks.due("houses as at first", x.count(0), 0);
        Checks.due("fog alone", Checks.tell(x, "fog 5;"), 1);
        Checks.due("dishes as at first again", x.count(1), 0);
        Checks.due("fog as told again", x.count(3), 5);
    }

    // "0 HOUSES, 1 DISHES, 2 PLUMES, 3 FOG, 4 bytes of THE TEXT"
    private static void countsAtTheirEdges() {
        SmokeTalk x = Checks.told("house 0 0 0 0 0;".repeat(6) + "dish 0 0 0 0 0 0 0;".repeat(8) + "fog 5;");
        for (int i = 0; i < 20; i++) x.cook(5, 7);
        Checks.type(x, " ".repeat(300));
        int[] most = {6, 8, 20, 5, 300};
        for (int what = 0; what < 5; what++) Checks.due("most of " + what, x.count(what), most[what]);
        Checks.due("5", x.count(5), -1);
        Checks.due("-1", x.count(-1), -1);
        x.valley();
        for (int what = 0; what < 5; what++) Checks.due("none of " + what, x.count(what), 0);
    }

    // "An object is used for at most 512 calls": the last is answered as the first.
    private static void fiveHundredAndTwelveCalls() {
        SmokeTalk x = new SmokeTalk();
        for (int i = 1; i <= 300; i++) x.type(0x20, 1);
        for (int i = 301; i <= 511; i++) Checks.due("call " + i, x.type(0x20, 1), -3);
        Checks.due("call 512", x.clear(), 300);
        SmokeTalk y = new SmokeTalk();
        for (int i = 1; i <= 256; i++) {
            Checks.due("type " + i, y.type(0x666F67303BL, 5), 5);
            Checks.due("valley " + i, y.valley(), 1);
        }
        SmokeTalk z = Checks.told("house 9 9 9 9 9;" + "dish 1 0 0 0 0 0 3;".repeat(8) + "fog 5;");
        for (int i = 24; i < 512; i++) {
            switch (i % 4) {
                case 0 -> Checks.due("says", z.says(0, 3, 3, 3, -1), 3);
                case 1 -> Checks.due("nearest", z.nearest(0, 3, 3, 3), 7);
                case 2 -> Checks.due("chain", z.chain(3, 4, 1), 4096);
                default -> Checks.due("code", z.code(255, 1, 1), 1);
            }
        }
    }
}
