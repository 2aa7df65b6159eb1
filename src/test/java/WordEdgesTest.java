// The sentences of the document that name an edge of words, each with a test of its own
// (promises 13 to 18). The sentence stands above its test.
public final class WordEdgesTest {
    public static void main(String[] args) {
        oneToThreeWords();
        noneAtTheEndAlone();
        allGoodsTogether();
        fewestUnits();
        fewestUnitsOfTheWholeRow();
        firstByDishes();
        noneWhateverIIs();
        noSuchWord();
        nearestEachAnswer();
        nearestMostThenLeast();
        nearestByAnyWay();
        readsEachBit();
        readsAllInThousandths();
        meansTheLeastDish();
        chainOfOneToFour();
        chainLeastDishes();
        chainEndsWhereNothingIsMeant();
        chainAsksNoLarders();
        chainJustThatWord();
        chainNoDishSaysIt();
        chainLeastTerms();
        whoAllAsLikely();
        whoCouldCookNow();
        whoZeroAndOne();
        whoNoneCanBe();
        whoLeastTerms();
        Checks.end();
    }

    private static void says(SmokeTalk x, int[] row, int units, int... dishes) {
        int b = row.length > 1 ? row[1] : -1;
        int c = row.length > 2 ? row[2] : -1;
        String name = "says " + row[0] + " " + b + " " + c;
        Checks.due(name, x.says(0, row[0], b, c, -1), units);
        for (int i = 0; i < 3; i++) {
            int due = units == -9 ? -9 : i < dishes.length ? dishes[i] : -5;
            Checks.due(name + ": " + i, x.says(0, row[0], b, c, i), due);
        }
    }

    private static int[] row(int... words) {
        return words;
    }

    // "a row of WORDS (1 to 3 ..)", of WORDS 0 .. 7
    private static void oneToThreeWords() {
        SmokeTalk x = Checks.told("house 9 9 9 9 9;dish 1 0 0 0 0 0 0;dish 0 2 0 0 0 1 7;dish 0 0 3 0 0 1 3;");
        says(x, row(0), 1, 0);
        says(x, row(7), 2, 1);
        says(x, row(3, 0), 4, 2, 0);
        says(x, row(0, 7, 3), 6, 0, 1, 2);
        says(x, row(7, 3, 0), 6, 1, 2, 0);
        says(x, row(7, 7, 7), 6, 1, 1, 1);
        says(x, row(0, 0), 2, 0, 0);
        says(x, row(1), -9);
        says(x, row(0, 1), -9);
        says(x, row(0, 0, 6), -9);
        SmokeTalk y = Checks.told("house 0 0 0 0 0;dish 0 0 0 0 0 0 5;");
        says(y, row(5, 5, 5), 0, 0, 0, 0);
        says(y, row(5), 0, 0);
        SmokeTalk z = Checks.told("house 9 9 9 9 9;dish 9 9 9 9 9 0 5;");
        says(z, row(5), 45, 0);
        says(z, row(5, 5), -9);
    }

    // "(.. -1: none, at the end alone)"; "BAD (a -1, -1 ahead of a WORD, too)"
    private static void noneAtTheEndAlone() {
        SmokeTalk x = Checks.told("house 9 9 9 9 9;dish 1 0 0 0 0 0 0;");
        for (int a = -1; a <= 0; a++) {
            for (int b = -1; b <= 0; b++) {
                for (int c = -1; c <= 0; c++) {
                    boolean bad = a == -1 || b == -1 && c == 0;
                    int words = 1 + (b == 0 ? 1 : 0) + (c == 0 ? 1 : 0);
                    String name = a + " " + b + " " + c;
                    Checks.due("says " + name, x.says(0, a, b, c, -1), bad ? -1 : words);
                    Checks.due("nearest " + name, x.nearest(0, a, b, c), bad ? -1 : (1 << words) - 1);
                }
            }
        }
    }

    // "all GOODS together there"
    private static void allGoodsTogether() {
        for (int good = 0; good < 5; good++) {
            for (int has = 5; has <= 6; has++) {
                StringBuilder larder = new StringBuilder("house");
                StringBuilder text = new StringBuilder();
                for (int g = 0; g < 5; g++) larder.append(' ').append(g == good ? has : 9);
                for (int word = 0; word < 3; word++) {
                    text.append("dish");
                    for (int g = 0; g < 5; g++) text.append(' ').append(g == good ? 1 + word : 3);
                    text.append(" 0 ").append(word).append(";");
                }
                SmokeTalk x = Checks.told(larder + ";" + text);
                if (has == 6) says(x, row(0, 1, 2), 42, 0, 1, 2);
                else says(x, row(0, 1, 2), -9);
                says(x, row(1, 2), 29, 1, 2);
                Checks.due("nearest of three", x.nearest(0, 2, 1, 0), has == 6 ? 7 : 3);
                Checks.due("nothing is gone", x.house(0, good), has);
            }
        }
    }

    // "of all ways that of the fewest UNITS"
    private static void fewestUnits() {
        for (int lean = 0; lean < 8; lean++) {
            StringBuilder text = new StringBuilder("house 9 9 9 9 9;");
            for (int d = 0; d < 8; d++) text.append("dish ").append(d == lean ? 1 : 2).append(" 0 0 0 0 0 4;");
            SmokeTalk x = Checks.told(text.toString());
            says(x, row(4), 1, lean);
            says(x, row(4, 4), 2, lean, lean);
            says(x, row(4, 4, 4), 3, lean, lean, lean);
        }
        // A lean DISH that is not there makes no way.
        SmokeTalk x = Checks.told("house 0 9 0 0 0;dish 1 0 0 0 0 0 4;dish 0 5 0 0 0 0 4;");
        says(x, row(4), 5, 1);
    }

    // The leanest DISH of each WORD for itself is no way to the fewest UNITS of all.
    private static void fewestUnitsOfTheWholeRow() {
        SmokeTalk x = Checks.told("house 2 9 0 0 0;dish 2 0 0 0 0 0 1;dish 0 3 0 0 0 0 1;dish 2 0 0 0 0 0 2;dish 0 9 0 0 0 0 2;");
        says(x, row(1, 2), 5, 1, 2);
        says(x, row(2, 1), 5, 2, 1);
        SmokeTalk y = Checks.told("house 1 1 1 9 0;dish 1 0 0 0 0 0 1;dish 0 0 0 3 0 0 1;dish 1 0 0 0 0 0 2;dish 0 0 0 4 0 0 2;dish 1 0 0 0 0 0 3;");
        says(y, row(1, 2, 3), 8, 1, 3, 4);
        says(y, row(1, 2), 4, 1, 2);
    }

    // "of several the first by DISHES in their row"
    private static void firstByDishes() {
        // By UNITS alike are 0 3 and 1 2: the first DISH of the row is asked first.
        SmokeTalk x = Checks.told("house 4 4 0 0 0;dish 1 0 0 0 0 0 1;dish 2 0 0 0 0 0 1;dish 1 0 0 0 0 0 2;dish 2 0 0 0 0 0 2;");
        says(x, row(1, 2), 2, 0, 2);
        SmokeTalk y = Checks.told("house 2 3 0 0 0;dish 2 0 0 0 0 0 1;dish 0 1 0 0 0 0 1;dish 2 0 0 0 0 0 2;dish 0 3 0 0 0 0 2;");
        // 0 3: 5; 1 2: 3; 0 2 needs 4 of good 0; 1 3 needs 4 of good 1.
        says(y, row(1, 2), 3, 1, 2);
        SmokeTalk z = Checks.told("house 2 2 0 0 0;dish 2 0 0 0 0 0 1;dish 0 2 0 0 0 0 1;dish 2 0 0 0 0 0 2;dish 0 2 0 0 0 0 2;");
        says(z, row(1, 2), 4, 0, 3);
        says(z, row(2, 1), 4, 2, 1);
        SmokeTalk w = Checks.told("house 1 1 1 0 0;dish 1 0 0 0 0 0 1;dish 0 1 0 0 0 0 1;dish 0 0 1 0 0 0 1;");
        says(w, row(1, 1, 1), 3, 0, 1, 2);
        says(w, row(1, 1), 2, 0, 1);
        SmokeTalk v = Checks.told("house 9 9 9 9 9;dish 0 0 0 0 0 0 1;dish 0 0 0 0 0 0 1;");
        says(v, row(1, 1, 1), 0, 0, 0, 0);
    }

    // "NONE (whatever i is)"
    private static void noneWhateverIIs() {
        SmokeTalk x = Checks.told("house 0 0 0 0 0;dish 1 0 0 0 0 0 0;");
        for (int i = -1; i <= 2; i++) {
            Checks.due("one word, i " + i, x.says(0, 0, -1, -1, i), -9);
            Checks.due("two words, i " + i, x.says(0, 0, 0, -1, i), -9);
            Checks.due("three words, i " + i, x.says(0, 0, 0, 0, i), -9);
            Checks.due("no dish says it, i " + i, x.says(0, 5, -1, -1, i), -9);
        }
        // Said in part alone is not said.
        SmokeTalk y = Checks.told("house 1 0 0 0 0;dish 1 0 0 0 0 0 0;");
        for (int i = -1; i <= 2; i++) {
            Checks.due("once only, i " + i, y.says(0, 0, 0, -1, i), -9);
            Checks.due("the second not, i " + i, y.says(0, 0, 3, -1, i), -9);
            Checks.due("the first not, i " + i, y.says(0, 3, 0, -1, i), -9);
        }
    }

    // "-5: there is no such WORD"
    private static void noSuchWord() {
        SmokeTalk x = Checks.told("house 9 9 9 9 9;dish 0 0 0 0 0 0 0;");
        Checks.due("the 0th of one", x.says(0, 0, -1, -1, 0), 0);
        Checks.due("the 1st of one", x.says(0, 0, -1, -1, 1), -5);
        Checks.due("the 2nd of one", x.says(0, 0, -1, -1, 2), -5);
        Checks.due("the 1st of two", x.says(0, 0, 0, -1, 1), 0);
        Checks.due("the 2nd of two", x.says(0, 0, 0, -1, 2), -5);
        Checks.due("the 2nd of three", x.says(0, 0, 0, 0, 2), 0);
        Checks.due("the 3rd", x.says(0, 0, 0, 0, 3), -1);
        Checks.due("the -2nd", x.says(0, 0, 0, 0, -2), -1);
    }

    // "which of these WORDS (bits by their places) .. (0: none)"
    private static void nearestEachAnswer() {
        SmokeTalk x = Checks.told("house 9 9 9 9 9;dish 1 0 0 0 0 0 3;");
        for (int bits = 0; bits < 8; bits++) {
            int a = (bits & 1) != 0 ? 3 : 4;
            int b = (bits & 2) != 0 ? 3 : 4;
            int c = (bits & 4) != 0 ? 3 : 4;
            Checks.due("nearest " + bits, x.nearest(0, a, b, c), bits);
            Checks.due("nearest of two " + bits, x.nearest(0, a, b, -1), bits & 3);
            Checks.due("nearest of one " + bits, x.nearest(0, a, -1, -1), bits & 1);
        }
    }

    // "the most, of several the least bits"
    private static void nearestMostThenLeast() {
        // Words 0, 1, 2 need a, b, c of one good.
        nearest("4 1 2 3", 3);
        nearest("5 1 2 3", 3);
        nearest("6 1 2 3", 7);
        nearest("3 1 2 3", 3);
        nearest("2 1 2 3", 1);
        nearest("0 1 2 3", 0);
        nearest("3 3 2 1", 6);
        nearest("4 3 2 1", 5);
        nearest("4 3 1 2", 3);
        nearest("3 2 3 1", 5);
        nearest("1 1 1 1", 1);
        nearest("1 2 1 1", 2);
        nearest("1 2 2 1", 4);
        nearest("2 2 1 1", 6);
        nearest("2 1 1 1", 3);
        nearest("2 1 2 1", 5);
        nearest("0 0 0 0", 7);
        nearest("0 1 0 0", 6);
        nearest("9 9 9 9", 1);
    }

    private static void nearest(String goods, int due) {
        String[] n = goods.split(" ");
        SmokeTalk x = Checks.told("house " + n[0] + " 0 0 0 0;dish " + n[1] + " 0 0 0 0 0 0;dish " + n[2] + " 0 0 0 0 0 1;dish " + n[3] + " 0 0 0 0 0 2;");
        Checks.due("nearest by " + goods, x.nearest(0, 0, 1, 2), due);
    }

    // A way for all of them is looked for, not each WORD for itself.
    private static void nearestByAnyWay() {
        SmokeTalk x = Checks.told("house 2 1 0 0 0;dish 1 0 0 0 0 0 1;dish 0 1 0 0 0 0 1;dish 2 0 0 0 0 0 2;");
        Checks.due("by the fatter way", x.nearest(0, 1, 2, -1), 3);
        Checks.due("and three", x.nearest(0, 1, 2, 1), 3);
        Checks.due("and in another row", x.nearest(0, 1, 1, 2), 3);
        Checks.due("three of one", x.nearest(0, 1, 1, 1), 7);
        Checks.due("of two the first", x.nearest(0, 2, 2, -1), 1);
        x.burns(0);
        Checks.due("with nothing", x.nearest(0, 1, 2, 1), 0);
        Checks.due("with nothing, one", x.nearest(0, 1, -1, -1), 0);
        SmokeTalk y = Checks.told("house 1 1 1 1 1;");
        Checks.due("without dishes", y.nearest(0, 0, 1, 2), 0);
    }

    // "each bit turns about by FOG in 10, for itself: thousandths"
    private static void readsEachBit() {
        int[] cubes = {1000, 729, 512, 343, 216, 125};
        int[] oneTurned = {0, 81, 128, 147, 144, 125};
        int[] twoTurned = {0, 9, 32, 63, 96, 125};
        int[] threeTurned = {0, 1, 8, 27, 64, 125};
        SmokeTalk x = new SmokeTalk();
        for (int f = 0; f <= 5; f++) {
            x.fog(f);
            for (int s = 0; s < 8; s++) {
                Checks.due("as itself, fog " + f, x.reads(s, s), cubes[f]);
                for (int bit : new int[] {1, 2, 4}) {
                    Checks.due("one turned, fog " + f, x.reads(s, s ^ bit), oneTurned[f]);
                    Checks.due("two turned, fog " + f, x.reads(s, s ^ 7 ^ bit), twoTurned[f]);
                }
                Checks.due("three turned, fog " + f, x.reads(s, 7 - s), threeTurned[f]);
            }
        }
    }

    private static void readsAllInThousandths() {
        SmokeTalk x = new SmokeTalk();
        for (int f = 0; f <= 5; f++) {
            x.fog(f);
            int all = 0;
            for (int as = 0; as < 8; as++) all += x.reads(6, as);
            Checks.due("all together, fog " + f, all, 1000);
        }
    }

    // "A READ SMOKE means the WORD of the least DISH with that SMOKE; NONE: nothing."
    private static void meansTheLeastDish() {
        SmokeTalk x = Checks.told("dish 9 0 0 0 0 7 7;dish 0 0 0 0 0 7 1;dish 0 0 0 0 0 0 0;dish 0 0 0 0 0 0 5;dish 0 0 0 0 0 4 0;");
        int[] due = {0, -9, -9, -9, 0, -9, -9, 7};
        for (int s = 0; s < 8; s++) Checks.due("means " + s, x.means(s), due[s]);
        SmokeTalk none = new SmokeTalk();
        for (int s = 0; s < 8; s++) Checks.due("no dishes: " + s, none.means(s), -9);
    }

    private static void chain(SmokeTalk x, int word, int k, long upper, long lower) {
        Checks.due("chain of " + word + " by " + k, x.chain(word, k, 0), upper);
        Checks.due("chain of " + word + " by " + k + ", lower", x.chain(word, k, 1), lower);
    }

    // "CHAIN of k (1 .. 4) houses"; "behind k READINGS (the SMOKE of the k-th one is READ, too)"
    private static void chainOfOneToFour() {
        // One DISH: each READING must be of its SMOKE.
        SmokeTalk x = Checks.told("dish 0 0 0 0 0 6 3;fog 5;");
        chain(x, 3, 1, 1, 8);
        chain(x, 3, 2, 1, 64);
        chain(x, 3, 3, 1, 512);
        chain(x, 3, 4, 1, 4096);
        x.fog(1);
        chain(x, 3, 1, 729, 1000);
        chain(x, 3, 2, 531441, 1000000);
        chain(x, 3, 3, 387420489, 1000000000);
        chain(x, 3, 4, 282429536481L, 1000000000000L);
        x.fog(2);
        chain(x, 3, 1, 64, 125);
        chain(x, 3, 4, 16777216, 244140625);
        x.fog(0);
        for (int k = 1; k <= 4; k++) chain(x, 3, k, 1, 1);
    }

    // "the first cooks the least DISH of a WORD; each next one .. cooks the least DISH of the WORD that it means"
    private static void chainLeastDishes() {
        // Word 1 is said by the SMOKES 1 and 6; DISH 0 is the least, so that 1 is what is cooked.
        SmokeTalk x = Checks.told("dish 0 0 0 0 0 1 1;dish 0 0 0 0 0 6 1;fog 1;");
        // From 1: as 1 729, as 6 1: 730 thousandths; then the same again.
        chain(x, 1, 1, 73, 100);
        chain(x, 1, 2, 5329, 10000);
        chain(x, 1, 4, 28398241, 100000000);
        // Another WORD's SMOKE that means the first's: DISH 1 is the least that says 2, and means 1.
        SmokeTalk y = Checks.told("dish 0 0 0 0 0 3 1;dish 0 0 0 0 0 3 2;dish 0 0 0 0 0 5 2;");
        chain(y, 2, 1, 0, 1);
        chain(y, 2, 4, 0, 1);
        chain(y, 1, 4, 1, 1);
        y.fog(5);
        // As 3: 1; as 5: 2; else nothing: each an eighth, and both WORDS cook the SMOKE 3.
        chain(y, 2, 1, 1, 8);
        chain(y, 2, 2, 1, 32);
        chain(y, 1, 2, 1, 32);
        chain(y, 1, 4, 1, 512);
    }

    // "what means nothing ends it"
    private static void chainEndsWhereNothingIsMeant() {
        // Six of eight SMOKES mean nothing; 0 means 0, 7 means 1.
        SmokeTalk x = Checks.told("dish 0 0 0 0 0 0 0;dish 0 0 0 0 0 7 1;fog 5;");
        chain(x, 0, 1, 1, 8);
        chain(x, 0, 2, 1, 32);
        chain(x, 0, 3, 1, 128);
        chain(x, 1, 4, 1, 512);
        // All eight mean something: nothing is lost.
        StringBuilder text = new StringBuilder("fog 5;");
        for (int d = 0; d < 8; d++) text.append("dish 0 0 0 0 0 ").append(d).append(" ").append(d).append(";");
        SmokeTalk y = Checks.told(text.toString());
        for (int word = 0; word < 8; word++) {
            for (int k = 1; k <= 4; k++) chain(y, word, k, 1, 8);
        }
    }

    // "(LARDERS are not asked)"
    private static void chainAsksNoLarders() {
        SmokeTalk x = Checks.told("dish 9 9 9 9 9 2 4;fog 5;");
        chain(x, 4, 4, 1, 4096);
        SmokeTalk y = Checks.told("house 0 0 0 0 0;dish 9 9 9 9 9 2 4;dish 0 0 0 0 0 2 5;dish 0 0 0 0 0 1 4;");
        chain(y, 4, 3, 1, 1);
        chain(y, 5, 3, 0, 1);
        Checks.due("no plumes", y.count(2), 0);
    }

    // "just that WORD is meant": by another WORD between, too; not another one at the end.
    private static void chainJustThatWord() {
        // Without fog: 1 cooks 0, which means 1 (DISH 0); 2 cooks 0 too.
        SmokeTalk x = Checks.told("dish 0 0 0 0 0 0 1;dish 0 0 0 0 0 4 2;fog 1;");
        // From 0: as 0 729, as 4 81. From 4: as 4 729, as 0 81.
        chain(x, 1, 1, 729, 1000);
        chain(x, 2, 1, 729, 1000);
        // 729 * 729 + 81 * 81 = 538002.
        chain(x, 1, 2, 269001, 500000);
        chain(x, 2, 2, 269001, 500000);
        // By three: 729 * 538002 + 81 * (729 * 81 + 81 * 729) = 401769396 of 1000^3.
        chain(x, 1, 3, 100442349, 250000000);
    }

    // "a fraction (0 by 1: no DISH says it)"
    private static void chainNoDishSaysIt() {
        SmokeTalk x = Checks.told("dish 0 0 0 0 0 0 1;fog 5;");
        for (int word = 0; word < 8; word++) {
            if (word == 1) continue;
            for (int k = 1; k <= 4; k++) chain(x, word, k, 0, 1);
        }
        for (int k = 1; k <= 4; k++) chain(new SmokeTalk(), 0, k, 0, 1);
    }

    // "in least terms"
    private static void chainLeastTerms() {
        SmokeTalk x = Checks.told("dish 0 0 0 0 0 0 1;dish 0 0 0 0 0 1 1;dish 0 0 0 0 0 2 1;dish 0 0 0 0 0 3 1;fog 4;");
        // Bit 2 alone matters: 6 in 10.
        chain(x, 1, 1, 3, 5);
        chain(x, 1, 2, 9, 25);
        chain(x, 1, 3, 27, 125);
        chain(x, 1, 4, 81, 625);
        x.fog(5);
        chain(x, 1, 1, 1, 2);
        chain(x, 1, 4, 1, 16);
    }

    private static void who(SmokeTalk x, int smoke, int h, int upper, int lower) {
        Checks.due("who of " + smoke + ", house " + h, x.who(smoke, h, 0), upper);
        Checks.due("who of " + smoke + ", house " + h + ", lower", x.who(smoke, h, 1), lower);
    }

    // "(DISHES of all houses all as likely)"
    private static void whoAllAsLikely() {
        // House 0 could cook one DISH of the SMOKE 3, house 1 three.
        SmokeTalk x = Checks.told("house 1 0 0 0 0;house 1 1 1 0 0;dish 1 0 0 0 0 3 0;dish 0 1 0 0 0 3 1;dish 0 0 1 0 0 3 0;");
        who(x, 3, 0, 1, 4);
        who(x, 3, 1, 3, 4);
        // The houses are not as likely, but their DISHES; FOG alters nothing where all SMOKES are one.
        x.fog(5);
        who(x, 3, 0, 1, 4);
        who(x, 0, 1, 3, 4);
        // DISHES of another SMOKE weigh by how likely they are READ so.
        SmokeTalk y = Checks.told("house 1 0 0 0 0;house 0 1 0 0 0;dish 1 0 0 0 0 0 0;dish 0 1 0 0 0 7 1;fog 1;");
        who(y, 0, 0, 729, 730);
        who(y, 0, 1, 1, 730);
        who(y, 1, 0, 9, 10);
        who(y, 3, 0, 1, 10);
        who(y, 7, 0, 1, 730);
    }

    // "any house with a DISH that it could cook now"
    private static void whoCouldCookNow() {
        SmokeTalk x = Checks.told("house 2 0 0 0 0;house 2 0 0 0 0;dish 2 0 0 0 0 1 0;dish 1 0 0 0 0 1 0;");
        who(x, 1, 0, 1, 2);
        x.cook(0, 1);
        who(x, 1, 0, 1, 3);
        x.cook(0, 1);
        who(x, 1, 0, 0, 1);
        who(x, 1, 1, 1, 1);
        x.undo();
        who(x, 1, 0, 1, 3);
        x.gives(1, 0, 0, 1);
        who(x, 1, 0, 2, 3);
        x.burns(0);
        x.burns(1);
        Checks.due("none now", x.who(1, 0, 0), -2);
        // For each good it is all or nothing.
        for (int good = 0; good < 5; good++) {
            StringBuilder larder = new StringBuilder("house");
            for (int g = 0; g < 5; g++) larder.append(' ').append(g == good ? 3 : 9);
            SmokeTalk y = Checks.told("house 4 4 4 4 4;" + larder + ";dish 4 4 4 4 4 1 0;");
            who(y, 1, 0, 1, 1);
            who(y, 1, 1, 0, 1);
        }
    }

    private static void whoZeroAndOne() {
        SmokeTalk x = Checks.told("house 0 0 0 0 0;house 1 0 0 0 0;dish 1 0 0 0 0 5 0;fog 3;");
        for (int s = 0; s < 8; s++) {
            who(x, s, 0, 0, 1);
            who(x, s, 1, 1, 1);
        }
    }

    // "STATE: none can be"
    private static void whoNoneCanBe() {
        SmokeTalk x = Checks.told("house 0 0 0 0 0;house 9 9 9 9 0;dish 0 0 0 0 1 5 0;fog 3;");
        for (int s = 0; s < 8; s++) {
            Checks.due("no house can cook", x.who(s, 0, 0), -2);
            Checks.due("no house can cook, lower", x.who(s, 1, 1), -2);
        }
        SmokeTalk y = Checks.told("house 0 0 0 0 0;fog 3;");
        Checks.due("no dishes", y.who(0, 0, 0), -2);
        SmokeTalk z = Checks.told("house 9 9 9 9 9;dish 0 0 0 0 1 5 0;");
        for (int s = 0; s < 8; s++) Checks.due("without fog", z.who(s, 0, 0), s == 5 ? 1 : -2);
        z.fog(1);
        for (int s = 0; s < 8; s++) Checks.due("with fog", z.who(s, 0, 0), 1);
    }

    // "in least terms": six houses with eight DISHES are the most.
    private static void whoLeastTerms() {
        StringBuilder text = new StringBuilder("house 9 9 9 9 9;".repeat(6));
        for (int d = 0; d < 8; d++) text.append("dish 1 0 0 0 0 3 ").append(d).append(";");
        SmokeTalk x = Checks.told(text.toString());
        for (int h = 0; h < 6; h++) who(x, 3, h, 1, 6);
        x.burns(5);
        who(x, 3, 0, 1, 5);
        who(x, 3, 5, 0, 1);
        x.fog(5);
        who(x, 0, 4, 1, 5);
    }
}
