// Promises 13 to 18: says, nearest, reads, means, chain, who.
public final class WordsTest {
    public static void main(String[] args) {
        saysTheFewestUnits();
        saysTheFirstByDishes();
        saysWithAllGoodsTogether();
        saysWrongly();
        nearest();
        nearestIsTheLeastOfTheMost();
        reading();
        meaning();
        chains();
        chainsEndAndChange();
        chainsWrongly();
        whoMadeIt();
        whoWithoutFog();
        Checks.end();
    }

    private static void saysTheFewestUnits() {
        SmokeTalk x = Checks.told("house 9 9 9 9 9; dish 3 0 0 0 0 0 1; dish 0 2 0 0 0 1 1; dish 0 0 0 1 0 2 2;");
        Checks.due("one word", x.says(0, 1, -1, -1, -1), 2);
        Checks.due("by dish 1", x.says(0, 1, -1, -1, 0), 1);
        Checks.due("no second word", x.says(0, 1, -1, -1, 1), -5);
        Checks.due("no third word", x.says(0, 1, -1, -1, 2), -5);
        Checks.due("two words", x.says(0, 2, 1, -1, -1), 3);
        Checks.due("the first by", x.says(0, 2, 1, -1, 0), 2);
        Checks.due("the second by", x.says(0, 2, 1, -1, 1), 1);
        Checks.due("no third", x.says(0, 2, 1, -1, 2), -5);
        Checks.due("three words", x.says(0, 1, 1, 1, -1), 6);
        Checks.due("the third by", x.says(0, 1, 1, 1, 2), 1);
        Checks.due("nothing is cooked", x.house(0, 5) + x.count(2), 45);
    }

    private static void saysTheFirstByDishes() {
        SmokeTalk x = Checks.told("house 2 1 0 0 0; dish 2 0 0 0 0 0 1; dish 1 1 0 0 0 1 1; dish 0 0 0 0 0 2 3; dish 0 0 0 0 0 2 3;");
        Checks.due("two ways of 2", x.says(0, 1, -1, -1, 0), 0);
        Checks.due("the first of its ways", x.says(0, 3, 1, 3, 0), 2);
        Checks.due("then", x.says(0, 3, 1, 3, 1), 0);
        Checks.due("then the first again", x.says(0, 3, 1, 3, 2), 2);

        // Dish 0 can't be said twice, so that the best ways are 0, 1 and 1, 0.
        SmokeTalk y = Checks.told("house 1 1 0 0 0; dish 1 0 0 0 0 0 1; dish 0 1 0 0 0 1 1;");
        Checks.due("0 and 1", y.says(0, 1, 1, -1, -1), 2);
        Checks.due("0 first", y.says(0, 1, 1, -1, 0), 0);
        Checks.due("1 behind it", y.says(0, 1, 1, -1, 1), 1);
    }

    private static void saysWithAllGoodsTogether() {
        SmokeTalk x = Checks.told("house 3 0 0 0 2; house 0 0 0 0 0; dish 1 0 0 0 0 0 1; dish 0 0 0 0 2 1 2; dish 0 0 0 0 1 1 3;");
        Checks.due("three times", x.says(0, 1, 1, 1, -1), 3);
        Checks.due("each alone", x.says(0, 2, -1, -1, -1), 2);
        Checks.due("not together", x.says(0, 2, 3, -1, -1), -9);
        Checks.due("NONE whatever i is", x.says(0, 2, 3, -1, 0), -9);
        Checks.due("NONE ahead of -5", x.says(0, 2, 3, -1, 2), -9);
        Checks.due("no dish says it", x.says(0, 7, -1, -1, -1), -9);
        Checks.due("the empty house", x.says(1, 1, -1, -1, -1), -9);
        x.cook(0, 0);
        Checks.due("with what is there now", x.says(0, 1, 1, 1, -1), -9);
        Checks.due("two still", x.says(0, 1, 1, -1, -1), 2);
    }

    private static void saysWrongly() {
        SmokeTalk x = Checks.told("house 9 0 0 0 0; dish 1 0 0 0 0 0 1;");
        Checks.due("a -1", x.says(0, -1, -1, -1, -1), -1);
        Checks.due("a -1 ahead", x.says(0, -1, 1, -1, -1), -1);
        Checks.due("-1 ahead of a WORD", x.says(0, 1, -1, 1, -1), -1);
        Checks.due("a 8", x.says(0, 8, -1, -1, -1), -1);
        Checks.due("b 8", x.says(0, 1, 8, -1, -1), -1);
        Checks.due("c 8", x.says(0, 1, 1, 8, -1), -1);
        Checks.due("a -2", x.says(0, -2, -1, -1, -1), -1);
        Checks.due("b -2", x.says(0, 1, -2, -1, -1), -1);
        Checks.due("c -2", x.says(0, 1, 1, -2, -1), -1);
        Checks.due("b -1, c -2", x.says(0, 1, -1, -2, -1), -1);
        Checks.due("i -2", x.says(0, 1, -1, -1, -2), -1);
        Checks.due("i 3", x.says(0, 1, 1, 1, 3), -1);
        Checks.due("house 1", x.says(1, 1, -1, -1, -1), -1);
        Checks.due("house -1", x.says(-1, 1, -1, -1, -1), -1);
    }

    private static void nearest() {
        SmokeTalk x = Checks.told("house 2 1 0 0 0; dish 1 0 0 0 0 0 0; dish 0 1 0 0 0 1 1; dish 0 0 1 0 0 2 2;");
        Checks.due("all three", x.nearest(0, 0, 1, 0), 7);
        Checks.due("all of one", x.nearest(0, 0, -1, -1), 1);
        Checks.due("all of two", x.nearest(0, 1, 0, -1), 3);
        Checks.due("not the middle", x.nearest(0, 0, 2, 1), 5);
        Checks.due("not the first", x.nearest(0, 2, 1, 0), 6);
        Checks.due("the last alone", x.nearest(0, 2, 7, 0), 4);
        Checks.due("none", x.nearest(0, 2, 2, 7), 0);
        Checks.due("none of one", x.nearest(0, 2, -1, -1), 0);
        Checks.due("a -1", x.nearest(0, -1, -1, -1), -1);
        Checks.due("-1 ahead", x.nearest(0, 0, -1, 0), -1);
        Checks.due("c 8", x.nearest(0, 0, 0, 8), -1);
        Checks.due("b 8", x.nearest(0, 0, 8, 0), -1);
        Checks.due("house 1", x.nearest(1, 0, 0, 0), -1);
        Checks.due("house -1", x.nearest(-1, 0, 0, 0), -1);
    }

    private static void nearestIsTheLeastOfTheMost() {
        SmokeTalk x = Checks.told("house 2 0 0 0 0; dish 1 0 0 0 0 0 0; dish 2 0 0 0 0 0 1;");
        Checks.due("two of three", x.nearest(0, 0, 0, 0), 3);
        Checks.due("two ahead of one", x.nearest(0, 1, 0, 0), 6);
        Checks.due("one of three", x.nearest(0, 1, 1, 1), 1);
        Checks.due("of one and one the first", x.nearest(0, 1, 0, -1), 1);
    }

    private static void reading() {
        SmokeTalk x = Checks.told("fog 1;");
        Checks.due("all alike", x.reads(5, 5), 729);
        Checks.due("one turned", x.reads(5, 4), 81);
        Checks.due("two turned", x.reads(5, 6), 9);
        Checks.due("three turned", x.reads(5, 2), 1);
        x.fog(5);
        Checks.due("fog 5", x.reads(0, 7), 125);
        x.fog(3);
        Checks.due("fog 3, alike", x.reads(0, 0), 343);
        Checks.due("fog 3, one", x.reads(0, 4), 147);
        Checks.due("fog 3, two", x.reads(7, 4), 63);
        Checks.due("fog 3, three", x.reads(7, 0), 27);
        x.fog(0);
        Checks.due("no fog, alike", x.reads(7, 7), 1000);
        Checks.due("no fog, unlike", x.reads(7, 6), 0);
        Checks.due("smoke 8", x.reads(8, 0), -1);
        Checks.due("smoke -1", x.reads(-1, 0), -1);
        Checks.due("as 8", x.reads(0, 8), -1);
        Checks.due("as -1", x.reads(0, -1), -1);
    }

    private static void meaning() {
        SmokeTalk x = Checks.told("dish 0 0 0 0 0 3 7; dish 0 0 0 0 0 3 1; dish 0 0 0 0 0 0 0;");
        Checks.due("the least dish's", x.means(3), 7);
        Checks.due("smoke 0", x.means(0), 0);
        Checks.due("nothing", x.means(7), -9);
        Checks.due("smoke 8", x.means(8), -1);
        Checks.due("smoke -1", x.means(-1), -1);
    }

    private static void chains() {
        SmokeTalk x = Checks.told("dish 9 9 9 9 9 0 2; fog 1;");
        Checks.due("one reading", x.chain(2, 1, 0), 729);
        Checks.due("of a thousand", x.chain(2, 1, 1), 1000);
        Checks.due("two", x.chain(2, 2, 0), 531441);
        Checks.due("of a million", x.chain(2, 2, 1), 1000000);
        Checks.due("four", x.chain(2, 4, 0), 282429536481L);
        Checks.due("of a million millions", x.chain(2, 4, 1), 1000000000000L);
        x.fog(0);
        Checks.due("no fog", x.chain(2, 4, 0), 1);
        Checks.due("in least terms", x.chain(2, 4, 1), 1);
        x.fog(5);
        Checks.due("an eighth", x.chain(2, 1, 1), 8);
        SmokeTalk y = Checks.told("dish 0 0 0 0 0 0 0; dish 0 0 0 0 0 7 7; fog 1;");
        // Word 0 by two: 729 * 729 + 1 * 1; word 7 alike.
        Checks.due("word 0", y.chain(0, 2, 0), 265721);
        Checks.due("word 0, of", y.chain(0, 2, 1), 500000);
        Checks.due("word 7", y.chain(7, 2, 0), 265721);
        Checks.due("word 0 again", y.chain(0, 1, 0), 729);
    }

    private static void chainsEndAndChange() {
        // The smokes 0 and 7 mean 1, the smoke 3 means 4 (not 1): the least dish that says 1 is
        // dish 0, and the least one that says 4 is dish 1, of a smoke that means 4.
        SmokeTalk x = Checks.told("dish 0 0 0 0 0 0 1; dish 0 0 0 0 0 3 4; dish 0 0 0 0 0 7 1; fog 1;");
        // 1 from 0: 729 + 1; 4 from 0: 9. 1 from 3: 9 + 81; 4 from 3: 729.
        Checks.due("1 by one reading", x.chain(1, 1, 0), 73);
        Checks.due("of", x.chain(1, 1, 1), 100);
        Checks.due("4 by one reading", x.chain(4, 1, 0), 729);
        // By two: 730 * 730 + 9 * 90 = 533710, and 729 * 729 + 90 * 9 = 532251 of a million.
        Checks.due("1 by two", x.chain(1, 2, 0), 53371);
        Checks.due("1 by two, of", x.chain(1, 2, 1), 100000);
        Checks.due("4 by two", x.chain(4, 2, 0), 532251);
        Checks.due("4 by two, of", x.chain(4, 2, 1), 1000000);
        Checks.due("no dish says it", x.chain(0, 3, 0), 0);
        Checks.due("by 1", x.chain(0, 3, 1), 1);

        // The word 5's least dish has a smoke that means 6: without fog it is never meant.
        SmokeTalk y = Checks.told("dish 0 0 0 0 0 1 6; dish 0 0 0 0 0 1 5;");
        Checks.due("never", y.chain(5, 1, 0), 0);
        Checks.due("never, by 1", y.chain(5, 1, 1), 1);
        Checks.due("always", y.chain(6, 3, 0), 1);
    }

    private static void chainsWrongly() {
        SmokeTalk x = Checks.told("dish 9 9 9 9 9 0 2; fog 1;");
        Checks.due("word 8", x.chain(8, 1, 0), -1);
        Checks.due("word -1", x.chain(-1, 1, 0), -1);
        Checks.due("k 0", x.chain(2, 0, 0), -1);
        Checks.due("k 5", x.chain(2, 5, 0), -1);
        Checks.due("what 2", x.chain(2, 1, 2), -1);
        Checks.due("what -1", x.chain(2, 1, -1), -1);
        Checks.due("BAD though no dish says it", x.chain(0, 1, 2), -1);
    }

    private static void whoMadeIt() {
        SmokeTalk x = Checks.told("house 1 0 0 0 0; house 1 1 0 0 0; house 0 0 0 0 0; dish 1 0 0 0 0 0 0; dish 0 1 0 0 0 1 1; fog 1;");
        // Read as 0: house 0 by dish 0: 729; house 1 by 0: 729, by 1: 81; house 2 can none.
        Checks.due("of house 0", x.who(0, 0, 0), 9);
        Checks.due("of house 0, lower", x.who(0, 0, 1), 19);
        Checks.due("of house 1", x.who(0, 1, 0), 10);
        Checks.due("of house 1, lower", x.who(0, 1, 1), 19);
        Checks.due("of house 2", x.who(0, 2, 0), 0);
        Checks.due("of house 2, by 1", x.who(0, 2, 1), 1);
        // Read as 1: 81; 81 + 729.
        Checks.due("read as 1", x.who(1, 0, 0), 1);
        Checks.due("read as 1, lower", x.who(1, 0, 1), 11);
        x.cook(1, 0);
        Checks.due("with what is there now", x.who(1, 1, 0), 9);
        Checks.due("now, lower", x.who(1, 1, 1), 10);
        Checks.due("smoke 8", x.who(8, 0, 0), -1);
        Checks.due("smoke -1", x.who(-1, 0, 0), -1);
        Checks.due("house 3", x.who(0, 3, 0), -1);
        Checks.due("house -1", x.who(0, -1, 0), -1);
        Checks.due("what 2", x.who(0, 0, 2), -1);
        Checks.due("what -1", x.who(0, 0, -1), -1);
        x.burns(0);
        x.burns(1);
        Checks.due("none can be", x.who(1, 0, 0), -2);
        Checks.due("BAD ahead of STATE", x.who(1, 0, 2), -1);
    }

    private static void whoWithoutFog() {
        SmokeTalk x = Checks.told("house 1 0 0 0 0; house 1 1 0 0 0; dish 1 0 0 0 0 0 0; dish 0 1 0 0 0 1 1;");
        Checks.due("one of two", x.who(0, 0, 0), 1);
        Checks.due("of two", x.who(0, 0, 1), 2);
        Checks.due("never house 0", x.who(1, 0, 0), 0);
        Checks.due("by 1", x.who(1, 0, 1), 1);
        Checks.due("house 1 for sure", x.who(1, 1, 1), 1);
        Checks.due("a smoke of none", x.who(2, 0, 0), -2);
        // What a house could cook is asked of its LARDER alone, not of the room for PLUMES.
        SmokeTalk y = Checks.told("house 1 0 0 0 0; dish 0 0 0 0 0 0 0;");
        for (int i = 0; i < 20; i++) y.cook(0, 0);
        Checks.due("with twenty plumes", y.who(0, 0, 0), 1);
    }
}
