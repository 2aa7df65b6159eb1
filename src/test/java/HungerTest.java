// Promises 19 to 24: days, code, feast, silent, drawn, lot.
public final class HungerTest {
    public static void main(String[] args) {
        days();
        codes();
        mostCodes();
        feasts();
        silence();
        drawing();
        lots();
        Checks.end();
    }

    private static void days() {
        SmokeTalk x = Checks.told("house 9 1 0 0 0; house 0 0 0 0 0; house 0 0 9 9 0; dish 4 0 0 0 0 0 0; dish 0 1 0 0 0 1 1; dish 0 0 3 0 0 2 2; dish 0 0 1 2 0 2 2;");
        Checks.due("one and two", x.days(0), 3);
        Checks.due("none", x.days(1), 0);
        // Dish 2 ahead of dish 3: of as many UNITS the least number.
        Checks.due("of several the least", x.days(2), 3);
        Checks.due("nothing is cooked", x.house(0, 5) + x.count(2), 10);
        Checks.due("house 3", x.days(3), -1);
        Checks.due("house -1", x.days(-1), -1);

        SmokeTalk y = Checks.told("house 3 3 0 0 0; dish 3 0 0 0 0 0 0; dish 1 1 0 0 0 1 1;");
        Checks.due("the fewest units first", y.days(0), 3);
        SmokeTalk z = Checks.told("house 0 0 0 0 0; dish 0 0 0 0 0 1 1;");
        Checks.due("thirty at most", z.days(0), 30);
        SmokeTalk w = Checks.told("house 9 9 9 9 9; dish 1 0 0 0 0 0 0; dish 0 1 0 0 0 0 0; dish 0 0 1 0 0 0 0; dish 0 0 0 1 0 0 0;");
        Checks.due("thirty of thirty-six", w.days(0), 30);
        w.burns(0);
        Checks.due("after a fire", w.days(0), 0);
        SmokeTalk v = Checks.told("house 9 0 0 0 0; dish 0 0 0 0 0 1 1; dish 1 0 0 0 0 1 1;");
        for (int i = 0; i < 20; i++) v.cook(0, 0);
        Checks.due("twenty plumes hinder none", v.days(0), 30);
        SmokeTalk u = Checks.told("house 9 0 0 0 0;");
        Checks.due("no dishes", u.days(0), 0);
    }

    private static void codes() {
        // Smokes 0, 1, 6, 7; words 0, 0, 1, 2.
        SmokeTalk x = Checks.told("dish 0 0 0 0 0 0 0; dish 0 0 0 0 0 1 0; dish 0 0 0 0 0 6 1; dish 0 0 0 0 0 7 2;");
        Checks.due("of no words", x.code(0, 3, 0), 0);
        Checks.due("the least dish of one word", x.code(1, 3, 0), 1);
        Checks.due("0 and 6", x.code(3, 2, 0), 5);
        Checks.due("1 and 6 for 3 bits", x.code(3, 3, 0), 6);
        Checks.due("0 and 7 for 3 bits", x.code(5, 3, 0), 9);
        Checks.due("6 and 7 for 1 bit", x.code(6, 1, 0), 12);
        Checks.due("6 and 7 for 2 bits", x.code(6, 2, 0), -9);
        Checks.due("all for 1 bit", x.code(7, 1, 0), 13);
        Checks.due("all for 2 bits", x.code(7, 2, 0), -9);
        Checks.due("a word that none says", x.code(8, 1, 0), -9);
        Checks.due("one with it", x.code(9, 1, 0), -9);
        Checks.due("words -1", x.code(-1, 1, 0), -1);
        Checks.due("words 256", x.code(256, 1, 0), -1);
        Checks.due("d 0", x.code(1, 0, 0), -1);
        Checks.due("d 4", x.code(1, 4, 0), -1);
        Checks.due("what 2", x.code(1, 1, 2), -1);
        Checks.due("what -1", x.code(1, 1, -1), -1);

        // One smoke twice is no distance.
        SmokeTalk y = Checks.told("dish 0 0 0 0 0 4 0; dish 0 0 0 0 0 4 7; dish 0 0 0 0 0 5 7;");
        Checks.due("not by one smoke", y.code(129, 1, 0), 5);
        Checks.due("not at all", y.code(129, 2, 0), -9);
    }

    private static void mostCodes() {
        SmokeTalk x = Checks.told("dish 0 0 0 0 0 0 0; dish 0 0 0 0 0 1 0; dish 0 0 0 0 0 6 1; dish 0 0 0 0 0 7 2;");
        Checks.due("of no words", x.code(0, 3, 1), 0);
        Checks.due("all for 1 bit", x.code(7, 1, 1), 3);
        Checks.due("two for 2 bits", x.code(7, 2, 1), 2);
        Checks.due("two for 3 bits", x.code(7, 3, 1), 2);
        Checks.due("one of two for 2 bits", x.code(6, 2, 1), 1);
        Checks.due("one dish a word", x.code(1, 1, 1), 1);
        Checks.due("none of these", x.code(0xF8, 1, 1), 0);
        Checks.due("of all words", x.code(255, 1, 1), 3);
        Checks.due("no dishes", new SmokeTalk().code(255, 1, 1), 0);
        Checks.due("no dishes: NONE", new SmokeTalk().code(255, 1, 0), -9);
    }

    private static void feasts() {
        SmokeTalk x = Checks.told("dish 0 0 0 0 0 1 4; dish 0 0 0 0 0 2 5; dish 0 0 0 0 0 3 5; dish 0 0 0 0 0 3 4; dish 0 0 0 0 0 4 0;");
        Checks.due("smoke of one", x.feast(1, 0), 1);
        Checks.due("smoke of two", x.feast(3, 0), 3);
        Checks.due("their word", x.feast(3, 1), 5);
        Checks.due("no lie", x.feast(3, 2), 0);
        Checks.due("a lie: 1 and 4", x.feast(9, 1), 5);
        Checks.due("is one", x.feast(9, 2), 1);
        Checks.due("it means nothing", x.feast(17, 0), 5);
        Checks.due("it means nothing: word", x.feast(17, 1), -9);
        Checks.due("it means nothing: lie", x.feast(17, 2), -9);
        Checks.due("a lie by one dish alone", x.feast(8, 2), 1);
        Checks.due("bits that there are not", x.feast(0x7FFFFFE1, 0), 1);
        Checks.due("bits below 0", x.feast(-1, 0), 7);
        Checks.due("the highest bit alone", x.feast(Integer.MIN_VALUE, 0), -1);
        Checks.due("none of these", x.feast(32, 0), -1);
        Checks.due("no bits", x.feast(0, 0), -1);
        Checks.due("what 3", x.feast(1, 3), -1);
        Checks.due("what -1", x.feast(1, -1), -1);
        Checks.due("the first dish says it", x.feast(1, 2), 0);
        SmokeTalk y = Checks.told("dish 0 0 0 0 0 0 6;");
        Checks.due("smoke 0", y.feast(1, 0), 0);
        Checks.due("smoke 0 means 6", y.feast(1, 1), 6);
    }

    private static void silence() {
        SmokeTalk x = Checks.told("house 0 0 0 0 0; house 0 0 0 0 0; house 0 0 0 0 0; dish 0 0 0 0 0 0 0;");
        Checks.due("all are silent", x.silent(1), 7);
        x.cook(2, 0);
        x.cook(0, 0);
        x.cook(0, 0);
        Checks.due("the last one", x.silent(1), 6);
        Checks.due("the last two", x.silent(2), 6);
        Checks.due("the last three", x.silent(3), 2);
        Checks.due("more than there are", x.silent(20), 2);
        Checks.due("n 0", x.silent(0), -1);
        Checks.due("n 21", x.silent(21), -1);
        Checks.due("n -1", x.silent(-1), -1);
        x.undo();
        x.undo();
        Checks.due("after undo", x.silent(1), 3);
        for (int i = 0; i < 19; i++) x.cook(1, 0);
        Checks.due("nineteen", x.silent(19), 5);
        Checks.due("twenty", x.silent(20), 1);
        Checks.due("no houses", new SmokeTalk().silent(20), 0);
    }

    private static void drawing() {
        // The lot from 1: 1103527590, 2524885223, 662824084, their upper 16 bits 16838, 38526, 10113.
        SmokeTalk x = Checks.told("fog 4;");
        Checks.due("bit 2 alone turns about", x.drawn(0), 4);
        Checks.due("the lot has gone on by three", x.lot(1), 662824084);
        Checks.due("and from 7", x.drawn(7), 3);
        x.fog(3);
        x.lot(1);
        Checks.due("a DRAW of 3 is not less than 3", x.drawn(0), 0);
        x.lot(1);
        Checks.due("smoke 8", x.drawn(8), -1);
        Checks.due("smoke -1", x.drawn(-1), -1);
        Checks.due("refused: the lot stays", x.lot(1), 1);
        x.fog(0);
        Checks.due("no fog turns nothing", x.drawn(5), 5);
        Checks.due("but the lot goes on", x.lot(1), 662824084);
        // The upper bits are read without a sign, where THE LOT is below 0 too.
        x.fog(5);
        for (int v = -3; v < 40; v++) {
            x.lot(v * 123456789);
            Checks.due("drawn by " + v, x.drawn(2), drawnBy(v * 123456789, 2, 5));
        }
    }

    private static int drawnBy(int lot, int smoke, int fog) {
        long at = lot & 0xFFFFFFFFL;
        int read = 0;
        for (int bit = 1; bit < 8; bit *= 2) {
            at = (at * 1103515245L + 12345L) & 0xFFFFFFFFL;
            boolean turns = at / 65536 % 10 < fog;
            boolean was = (smoke & bit) != 0;
            if (was != turns) read += bit;
        }
        return read;
    }

    private static void lots() {
        SmokeTalk x = new SmokeTalk();
        Checks.due("first", x.lot(-5), 1);
        Checks.due("then", x.lot(Integer.MIN_VALUE), -5);
        Checks.due("then", x.lot(0), Integer.MIN_VALUE);
        Checks.due("then", x.lot(0), 0);
    }
}
