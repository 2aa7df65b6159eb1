// The sentences of the document that name an edge of hunger, codes and feasts, each with a test of
// its own (promises 19 to 24). The sentence stands above its test.
public final class HungerEdgesTest {
    public static void main(String[] args) {
        daysThirtyAtMost();
        daysFewestUnits();
        daysLeastNumber();
        daysTillItCanNone();
        codeOfNoWords();
        codeADishForEach();
        codeDistances();
        codeAnyTwo();
        codeLeastBits();
        codeNone();
        codeMost();
        codeRange();
        feastSmoke();
        feastWord();
        feastLie();
        feastBitsThatThereAreNot();
        silentLastPlumes();
        silentOneToTwenty();
        drawnBits();
        drawnLessThanFog();
        drawnUpperBits();
        lotWraps();
        lotBecomes();
        lotFirstAndStays();
        Checks.end();
    }

    private static void days(String text, int due) {
        SmokeTalk x = Checks.told(text);
        int all = x.house(0, 5);
        Checks.due("days of " + text, x.days(0), due);
        Checks.due("nothing is less", x.house(0, 5), all);
        Checks.due("no plumes", x.count(2), 0);
    }

    // "how many (30 at most)"
    private static void daysThirtyAtMost() {
        String ones = "dish 1 0 0 0 0 0 0;dish 0 1 0 0 0 0 0;dish 0 0 1 0 0 0 0;dish 0 0 0 1 0 0 0;dish 0 0 0 0 1 0 0;";
        days("house 9 9 9 1 1;" + ones, 29);
        days("house 9 9 9 2 1;" + ones, 30);
        days("house 9 9 9 2 2;" + ones, 30);
        days("house 9 9 9 9 9;" + ones, 30);
        days("house 0 0 0 0 0;dish 0 0 0 0 0 1 1;", 30);
        days("house 9 9 9 9 9;dish 0 0 0 0 0 1 1;dish 9 9 9 9 9 1 1;", 30);
    }

    // "the DISH of the fewest UNITS that it can"
    private static void daysFewestUnits() {
        // 2 of good 0 first (3 times), though 3 of goods 0 and 1 would leave more.
        days("house 6 0 0 0 0;dish 3 0 0 0 0 0 0;dish 2 0 0 0 0 0 0;", 3);
        days("house 7 0 0 0 0;dish 3 0 0 0 0 0 0;dish 2 0 0 0 0 0 0;", 3);
        days("house 9 0 0 0 0;dish 4 0 0 0 0 0 0;dish 5 0 0 0 0 0 0;", 2);
        // The leanest takes what two others need.
        days("house 1 2 2 0 0;dish 1 0 0 0 0 0 0;dish 1 1 1 0 0 0 0;dish 0 2 2 0 0 0 0;", 2);
        days("house 1 1 0 0 0;dish 1 1 0 0 0 0 0;dish 1 0 0 0 0 0 0;", 1);
        // The leanest of all is not one that it can: the next.
        days("house 0 9 0 0 0;dish 1 0 0 0 0 0 0;dish 0 3 0 0 0 0 0;dish 0 4 0 0 0 0 0;", 3);
        // 2, 2, 2, then 3 of what is left.
        days("house 9 0 0 0 0;dish 2 0 0 0 0 0 0;dish 3 0 0 0 0 0 0;", 4);
        days("house 8 3 0 0 0;dish 2 1 0 0 0 0 0;dish 4 0 0 0 0 0 0;", 3);
    }

    // "(of several the least number)"
    private static void daysLeastNumber() {
        // Both of 2 UNITS; the first takes good 0, which leaves good 1 for none.
        days("house 2 1 0 0 0;dish 2 0 0 0 0 0 0;dish 1 1 0 0 0 0 0;", 1);
        days("house 3 1 0 0 0;dish 1 1 0 0 0 0 0;dish 2 0 0 0 0 0 0;", 2);
        days("house 2 2 0 0 0;dish 1 1 0 0 0 0 0;dish 2 0 0 0 0 0 0;dish 0 2 0 0 0 0 0;", 2);
        days("house 3 1 1 0 0;dish 2 0 0 0 0 0 0;dish 1 1 0 0 0 0 0;dish 1 0 1 0 0 0 0;", 2);
        days("house 3 1 1 0 0;dish 1 1 0 0 0 0 0;dish 2 0 0 0 0 0 0;dish 1 0 1 0 0 0 0;", 2);
        days("house 4 1 1 0 0;dish 1 1 0 0 0 0 0;dish 1 0 1 0 0 0 0;dish 2 0 0 0 0 0 0;", 3);
        days("house 4 1 1 0 0;dish 2 0 0 0 0 0 0;dish 1 1 0 0 0 0 0;dish 1 0 1 0 0 0 0;", 2);
    }

    // "till it can none"
    private static void daysTillItCanNone() {
        days("house 0 0 0 0 0;dish 1 0 0 0 0 0 0;", 0);
        days("house 9 9 9 9 9;", 0);
        days("house 9 9 9 9 8;dish 9 9 9 9 9 0 0;", 0);
        days("house 9 9 9 9 9;dish 9 9 9 9 9 0 0;", 1);
        SmokeTalk x = Checks.told("house 9 0 0 0 0;house 0 5 0 0 0;dish 1 0 0 0 0 0 0;dish 0 1 0 0 0 0 0;");
        Checks.due("nine", x.days(0), 9);
        Checks.due("five", x.days(1), 5);
        x.cook(0, 0);
        Checks.due("eight", x.days(0), 8);
        x.gives(1, 0, 1, 2);
        Checks.due("and two", x.days(0), 10);
        Checks.due("three", x.days(1), 3);
        x.burns(1);
        Checks.due("none", x.days(1), 0);
    }

    private static void code(SmokeTalk x, int words, int d, int dishes, int most) {
        Checks.due("code of " + words + " by " + d, x.code(words, d, 0), dishes);
        Checks.due("most of " + words + " by " + d, x.code(words, d, 1), most);
    }

    // "(of no WORDS: 0)"
    private static void codeOfNoWords() {
        SmokeTalk x = Checks.told("dish 0 0 0 0 0 0 0;dish 0 0 0 0 0 7 1;");
        for (int d = 1; d <= 3; d++) {
            code(x, 0, d, 0, 0);
            code(new SmokeTalk(), 0, d, 0, 0);
        }
    }

    // "a DISH for each of these"
    private static void codeADishForEach() {
        StringBuilder text = new StringBuilder();
        for (int d = 0; d < 8; d++) text.append("dish 0 0 0 0 0 ").append(d).append(" ").append(7 - d).append(";");
        SmokeTalk x = Checks.told(text.toString());
        for (int words = 0; words < 256; words++) {
            int dishes = 0;
            for (int word = 0; word < 8; word++) {
                if ((words & 1 << word) != 0) dishes |= 1 << 7 - word;
            }
            Checks.due("code of " + words, x.code(words, 1, 0), dishes);
        }
        Checks.due("all, most", x.code(255, 1, 1), 8);
        Checks.due("all by 2", x.code(255, 2, 0), -9);
        Checks.due("most by 2", x.code(255, 2, 1), 4);
        Checks.due("most by 3", x.code(255, 3, 1), 2);
        // One DISH a WORD, not two.
        SmokeTalk y = Checks.told("dish 0 0 0 0 0 0 4;dish 0 0 0 0 0 7 4;");
        code(y, 16, 1, 1, 1);
        code(y, 16, 3, 1, 1);
        code(y, 48, 1, -9, 1);
        code(y, 32, 1, -9, 0);
    }

    // "SMOKES of which d bits at least are unlike"
    private static void codeDistances() {
        int[] smokes = {0, 1, 3, 7};
        for (int far = 0; far <= 3; far++) {
            SmokeTalk x = Checks.told("dish 0 0 0 0 0 0 0;dish 0 0 0 0 0 " + smokes[far] + " 1;");
            SmokeTalk y = Checks.told("dish 0 0 0 0 0 5 0;dish 0 0 0 0 0 " + (5 ^ smokes[far]) + " 1;");
            for (int d = 1; d <= 3; d++) {
                code(x, 3, d, far >= d ? 3 : -9, far >= d ? 2 : 1);
                code(y, 3, d, far >= d ? 3 : -9, far >= d ? 2 : 1);
            }
        }
    }

    // "any two of them"
    private static void codeAnyTwo() {
        // 0, 3 and 5 are two apart; 0 and 7 three, 7 and 3 one.
        SmokeTalk x = Checks.told("dish 0 0 0 0 0 0 0;dish 0 0 0 0 0 3 1;dish 0 0 0 0 0 5 2;dish 0 0 0 0 0 7 3;");
        code(x, 7, 2, 7, 3);
        code(x, 7, 3, -9, 1);
        code(x, 9, 3, 9, 2);
        code(x, 11, 2, -9, 2);
        code(x, 15, 1, 15, 4);
        code(x, 15, 2, -9, 3);
        // The first and the last are too near, each beside the middle one not.
        SmokeTalk y = Checks.told("dish 0 0 0 0 0 1 0;dish 0 0 0 0 0 6 1;dish 0 0 0 0 0 0 2;");
        code(y, 3, 2, 3, 2);
        code(y, 6, 2, 6, 2);
        code(y, 5, 2, -9, 1);
        code(y, 7, 2, -9, 2);
        code(y, 7, 1, 7, 3);
    }

    // "of several sets of DISHES the least bits"
    private static void codeLeastBits() {
        // Word 0: DISHES 0, 3; word 1: DISHES 1, 2.
        SmokeTalk x = Checks.told("dish 0 0 0 0 0 0 0;dish 0 0 0 0 0 1 1;dish 0 0 0 0 0 7 1;dish 0 0 0 0 0 6 0;");
        code(x, 3, 1, 3, 2);
        code(x, 3, 2, 5, 2);
        code(x, 3, 3, 5, 2);
        // The least bits: DISHES 1 and 2 (6) ahead of 0 and 3 (9).
        SmokeTalk y = Checks.told("dish 0 0 0 0 0 0 0;dish 0 0 0 0 0 1 0;dish 0 0 0 0 0 6 1;dish 0 0 0 0 0 7 1;");
        code(y, 3, 3, 6, 2);
        code(y, 3, 2, 5, 2);
        code(y, 1, 3, 1, 1);
        code(y, 2, 3, 4, 1);
        // The highest DISH.
        SmokeTalk z = Checks.told("dish 0 0 0 0 0 2 0;".repeat(7) + "dish 0 0 0 0 0 5 1;");
        code(z, 3, 3, 129, 2);
        code(z, 2, 1, 128, 1);
    }

    // "NONE"
    private static void codeNone() {
        SmokeTalk x = Checks.told("dish 0 0 0 0 0 4 6;dish 0 0 0 0 0 4 7;");
        code(x, 64, 3, 1, 1);
        code(x, 128, 3, 2, 1);
        code(x, 192, 1, -9, 1);
        code(x, 65, 1, -9, 1);
        code(x, 1, 1, -9, 0);
        code(x, 255, 3, -9, 1);
        code(new SmokeTalk(), 1, 1, -9, 0);
        code(new SmokeTalk(), 255, 3, -9, 0);
    }

    // "MOST of these WORDS that have a CODE: how many."
    private static void codeMost() {
        // Words 0 .. 3 by the SMOKES 0, 3, 5, 6: all two apart; words 4 .. 7 by 1, 2, 4, 7.
        StringBuilder text = new StringBuilder();
        int[] smokes = {0, 3, 5, 6, 1, 2, 4, 7};
        for (int d = 0; d < 8; d++) text.append("dish 0 0 0 0 0 ").append(smokes[d]).append(" ").append(d).append(";");
        SmokeTalk x = Checks.told(text.toString());
        code(x, 15, 2, 15, 4);
        code(x, 0xF0, 2, 0xF0, 4);
        code(x, 0x1F, 2, -9, 4);
        code(x, 0x1F, 1, 0x1F, 5);
        code(x, 0x81, 3, 0x81, 2);
        code(x, 0x83, 3, -9, 2);
        code(x, 3, 3, -9, 1);
        code(x, 255, 1, 255, 8);
        // WORDS that are not asked for count none.
        code(x, 1, 3, 1, 1);
    }

    // "(WORDS 0 .. 255, d 1 .. 3)"
    private static void codeRange() {
        SmokeTalk x = Checks.told("dish 0 0 0 0 0 0 7;");
        Checks.due("255", x.code(255, 1, 1), 1);
        Checks.due("256", x.code(256, 1, 1), -1);
        Checks.due("-1", x.code(-1, 1, 1), -1);
        Checks.due("0", x.code(0, 1, 1), 0);
        Checks.due("d 3", x.code(128, 3, 0), 1);
        Checks.due("d 1", x.code(128, 1, 0), 1);
        Checks.due("d 4", x.code(128, 4, 0), -1);
        Checks.due("d 0", x.code(128, 0, 0), -1);
    }

    // "one SMOKE: a bit is in it, if it is in one of theirs"
    private static void feastSmoke() {
        StringBuilder text = new StringBuilder();
        for (int d = 0; d < 8; d++) text.append("dish 0 0 0 0 0 ").append(d).append(" ").append(7 - d).append(";");
        SmokeTalk x = Checks.told(text.toString());
        for (int set = 1; set < 256; set++) {
            int smoke = 0;
            for (int d = 0; d < 8; d++) if ((set & 1 << d) != 0) smoke |= d;
            Checks.due("feast of " + set, x.feast(set, 0), smoke);
        }
        Checks.due("of the highest dish", x.feast(128, 1), 0);
    }

    // "the WORD that it means": of the least DISH of all with that SMOKE; "NONE"
    private static void feastWord() {
        SmokeTalk x = Checks.told("dish 0 0 0 0 0 3 6;dish 0 0 0 0 0 1 0;dish 0 0 0 0 0 2 5;dish 0 0 0 0 0 3 4;dish 0 0 0 0 0 4 4;");
        Checks.due("that of a dish that is not eaten", x.feast(6, 1), 6);
        Checks.due("the least dish's, not its own", x.feast(8, 1), 6);
        Checks.due("its own", x.feast(2, 1), 0);
        Checks.due("nothing", x.feast(18, 1), -9);
        Checks.due("nothing, smoke", x.feast(18, 0), 5);
        Checks.due("all", x.feast(31, 0), 7);
        Checks.due("all mean nothing", x.feast(31, 1), -9);
    }

    // "whether none of them says that WORD (a LIE)": "2: 1, 0; NONE: it means nothing"
    private static void feastLie() {
        SmokeTalk x = Checks.told("dish 0 0 0 0 0 3 6;dish 0 0 0 0 0 1 0;dish 0 0 0 0 0 2 6;dish 0 0 0 0 0 3 4;dish 0 0 0 0 0 4 4;dish 0 0 0 0 0 2 1;");
        Checks.due("another dish says it", x.feast(6, 2), 0);
        Checks.due("none says it", x.feast(2 + 32, 2), 1);
        Checks.due("nor this one", x.feast(8, 2), 1);
        Checks.due("itself", x.feast(1, 2), 0);
        Checks.due("itself with others", x.feast(1 + 2 + 32, 2), 0);
        Checks.due("nothing is meant", x.feast(16 + 2, 2), -9);
        Checks.due("the word of DISH 1", x.feast(2, 2), 0);
    }

    // "BAD (no DISHES of these, too; bits that there are not are left out)"
    private static void feastBitsThatThereAreNot() {
        for (int dishes = 0; dishes <= 8; dishes++) {
            StringBuilder text = new StringBuilder();
            for (int d = 0; d < dishes; d++) text.append("dish 0 0 0 0 0 ").append(d).append(" ").append(d).append(";");
            SmokeTalk x = Checks.told(text.toString());
            int above = -1 << dishes;
            String name = " of " + dishes + " dishes";
            Checks.due("no bits" + name, x.feast(0, 0), -1);
            Checks.due("all bits that there are not" + name, x.feast(above, 0), -1);
            for (int bit = dishes; bit < 32; bit++) Checks.due("bit " + bit + name, x.feast(1 << bit, 0), -1);
            for (int d = 0; d < dishes; d++) {
                Checks.due("bit " + d + name, x.feast(1 << d, 0), d);
                Checks.due("with all that there are not" + name, x.feast(1 << d | above, 0), d);
                Checks.due("their word" + name, x.feast(1 << d | above, 1), d);
                Checks.due("their lie" + name, x.feast(1 << d | above, 2), 0);
            }
        }
    }

    // "houses that made none of the last n PLUMES"
    private static void silentLastPlumes() {
        SmokeTalk x = Checks.told("house 0 0 0 0 0;".repeat(6) + "dish 0 0 0 0 0 0 0;");
        for (int n = 1; n <= 20; n++) Checks.due("no plumes", x.silent(n), 63);
        int[] houses = {5, 0, 0, 3, 1, 3};
        for (int h : houses) x.cook(h, 0);
        int[] due = {63 - 8, 63 - 8 - 2, 63 - 8 - 2, 63 - 8 - 2 - 1, 63 - 8 - 2 - 1, 63 - 8 - 2 - 1 - 32};
        for (int n = 1; n <= 6; n++) Checks.due("the last " + n, x.silent(n), due[n - 1]);
        for (int n = 7; n <= 20; n++) Checks.due("more than there are: " + n, x.silent(n), 63 - 32 - 8 - 2 - 1);
        x.undo();
        Checks.due("what is undone is not heard", x.silent(1), 63 - 2);
        x.cook(2, 0);
        x.cook(4, 0);
        Checks.due("all are heard", x.silent(20), 0);
    }

    // "SILENT for n (1 .. 20)"
    private static void silentOneToTwenty() {
        SmokeTalk x = Checks.told("house 0 0 0 0 0;house 0 0 0 0 0;dish 0 0 0 0 0 0 0;");
        x.cook(1, 0);
        for (int i = 1; i < 20; i++) x.cook(0, 0);
        for (int n = 1; n <= 19; n++) Checks.due("the last " + n, x.silent(n), 2);
        Checks.due("all twenty", x.silent(20), 0);
        Checks.due("21", x.silent(21), -1);
        Checks.due("0", x.silent(0), -1);
        Checks.due("no houses", new SmokeTalk().silent(1), 0);
    }

    // THE LOT that a number comes from by one DRAW: the numbers are turned back.
    private static int ahead(int lot) {
        int inverse = 1;
        for (int i = 0; i < 5; i++) inverse *= 2 - 1103515245 * inverse;
        return (lot - 12345) * inverse;
    }

    // "bit 0, 1, 2 turns about, if its DRAW is less than FOG": the first DRAW is bit 0's.
    private static void drawnBits() {
        SmokeTalk x = new SmokeTalk();
        boolean[] seen = new boolean[8];
        for (int v = 0; v < 60; v++) {
            x.fog(5);
            int turned = 0;
            int lot = v;
            for (int bit = 0; bit < 3; bit++) {
                lot = lot * 1103515245 + 12345;
                if ((lot >>> 16) % 10 < 5) turned |= 1 << bit;
            }
            seen[turned] = true;
            int smoke = v % 8;
            x.lot(v);
            Checks.due("drawn of " + smoke + " from " + v, x.drawn(smoke), smoke ^ turned);
            Checks.due("three DRAWS", x.lot(0), lot);
        }
        for (int turned = 0; turned < 8; turned++) Checks.holds("seen: " + turned, seen[turned]);
    }

    // "less than FOG": a DRAW of just FOG turns nothing.
    private static void drawnLessThanFog() {
        for (int draw = 0; draw < 10; draw++) {
            int first = ahead(draw << 16);
            for (int f = 0; f <= 5; f++) {
                SmokeTalk x = new SmokeTalk();
                x.fog(f);
                x.lot(first);
                Checks.due("a DRAW of " + draw + ", fog " + f, x.drawn(0) & 1, draw < f ? 1 : 0);
                x.lot(first);
                Checks.due("a DRAW of " + draw + ", fog " + f + ", from 7", x.drawn(7) & 1, draw < f ? 0 : 1);
            }
        }
        SmokeTalk x = new SmokeTalk();
        for (int i = 0; i < 20; i++) Checks.due("no fog turns nothing", x.drawn(i % 8), i % 8);
    }

    // "DRAW: its upper 16 bits, left over by 10": 0 .. 65535, whatever the sign is.
    private static void drawnUpperBits() {
        int[] uppers = {0, 1, 9, 10, 11, 32767, 32768, 32769, 40000, 65530, 65534, 65535};
        for (int upper : uppers) {
            for (int lower : new int[] {0, 1, 65535}) {
                SmokeTalk x = new SmokeTalk();
                x.fog(5);
                x.lot(ahead(upper << 16 | lower));
                Checks.due("upper " + upper + ", lower " + lower, x.drawn(0) & 1, upper % 10 < 5 ? 1 : 0);
            }
        }
    }

    // "goes on, times 1103515245 and 12345, wrapped"
    private static void lotWraps() {
        long[] lots = {1, 0, -1, Integer.MAX_VALUE, Integer.MIN_VALUE, 123456789, -123456789, 65535, 65536};
        for (long lot : lots) {
            long due = lot;
            for (int i = 0; i < 3; i++) due = due * 1103515245L + 12345L & 0xFFFFFFFFL;
            SmokeTalk x = new SmokeTalk();
            x.lot((int) lot);
            x.drawn(0);
            Checks.due("three on from " + lot, x.lot(0), (int) due);
        }
    }

    // "THE LOT becomes v: what it was."
    private static void lotBecomes() {
        SmokeTalk x = new SmokeTalk();
        int was = 1;
        for (int v : new int[] {0, -1, Integer.MAX_VALUE, Integer.MIN_VALUE, 1, -1000000, -9, 7}) {
            Checks.due("lot " + v, x.lot(v), was);
            was = v;
        }
    }

    // "THE LOT, 1 at first, stays" where a text is read anew.
    private static void lotFirstAndStays() {
        Checks.due("at first", new SmokeTalk().lot(0), 1);
        SmokeTalk x = Checks.told("fog 1;");
        Checks.due("told", x.lot(42), 1);
        Checks.tell(x, "fog 2;");
        Checks.due("stays", x.lot(0), 42);
        x.lot(1);
        x.drawn(0);
        Checks.tell(x, "");
        Checks.due("stays as it has gone on", x.lot(0), 662824084);
        // drawn asks no plumes and changes nothing else.
        Checks.due("no plumes", x.count(2), 0);
    }
}
