import java.util.ArrayList;
import java.util.List;

// "Refused, and nothing changes, the first of these: BAD (a number is not as told, or there is no
// such thing), STATE (as told), FULL." Each number of each call just below and above what it may
// be and far off; then all that the object tells is compared with a twin that was not asked.
public final class RefusedTest {
    interface Call { long of(SmokeTalk x); }

    interface Maker { SmokeTalk make(); }

    interface Of { long of(SmokeTalk x, int n); }

    private static final int LEAST = Integer.MIN_VALUE, MOST = Integer.MAX_VALUE;
    // Times 5, the last two would be places in a row of 30 again.
    private static final int[] NO_HOUSE = {-1, 2, 5, 6, MOST, LEAST, 858993460, -858993459};
    private static final int[] NO_DISH = {-1, 3, 7, 8, 31, 32, MOST, LEAST, 858993460, -858993459};
    private static final int[] NOT_0_TO_1 = {-1, 2, 32, MOST, LEAST};
    private static final int[] NOT_0_TO_7 = {-1, -2, 8, 9, 32, 39, -32, MOST, LEAST};
    private static final int[] NO_WORD_OR_NONE = {-2, 8, 9, 32, 39, -32, MOST, LEAST};

    private static int calls = 0;

    public static void main(String[] args) {
        valleyCalls();
        supperCalls();
        wordCalls();
        hungerCalls();
        kindCalls();
        stateIsAsTold();
        fullIsAsTold();
        badComesAheadOfState();
        badComesAheadOfFull();
        stateComesAheadOfFull();
        faultsChangeNothing();
        askingChangesNothing();
        Checks.holds("many were refused: " + calls, calls > 300);
        Checks.end();
    }

    // HOUSES 0 and 1, DISHES 0 to 2, two PLUMES, IMAGE 0 alone, and a text begun.
    private static SmokeTalk busy() {
        SmokeTalk x = Checks.told("house 9 9 9 9 9;house 1 0 0 2 9;dish 1 0 0 0 0 1 1;dish 9 9 9 9 9 2 2;dish 0 0 0 0 0 7 3;fog 2;");
        x.lot(77);
        x.cook(0, 0);
        x.keep(0);
        x.cook(1, 0);
        x.lot(-78);
        x.fog(3);
        x.mark(1, 0);
        Checks.type(x, "fog 4;");
        return x;
    }

    private static SmokeTalk bothKept() {
        SmokeTalk x = busy();
        x.keep(1);
        x.burns(0);
        x.fog(1);
        x.lot(5);
        return x;
    }

    // As busy, with twenty PLUMES.
    private static SmokeTalk fullOfPlumes() {
        SmokeTalk x = busy();
        for (int i = 2; i < 20; i++) x.cook(1, 2);
        return x;
    }

    private static SmokeTalk fullOfText() {
        SmokeTalk x = busy();
        Checks.type(x, " ".repeat(294));
        return x;
    }

    private static void refused(String name, Maker maker, Call call, long want) {
        SmokeTalk asked = maker.make();
        Checks.due(name, call.of(asked), want);
        List<Long> after = Probe.of(asked);
        List<Long> before = Probe.of(maker.make());
        Checks.holds(name + ": nothing changes: " + before + " became " + after, after.equals(before));
        calls++;
    }

    private static void bad(String name, int[] numbers, Of call) {
        bad(name, numbers, call, -1);
    }

    private static void bad(String name, int[] numbers, Of call, long want) {
        for (int n : numbers) refused(name + " " + n, RefusedTest::busy, x -> call.of(x, n), want);
    }

    private static void valleyCalls() {
        int[] noBytes = {0, -1, 9, 10, 300, MOST, LEAST};
        bad("type n", noBytes, (x, n) -> x.type(0x3B, n));
        bad("house h", NO_HOUSE, (x, h) -> x.house(h, 0));
        bad("house h, all", NO_HOUSE, (x, h) -> x.house(h, 5));
        int[] not0To5 = {-1, 6, 7, MOST, LEAST};
        bad("house what", not0To5, (x, what) -> x.house(1, what));
        bad("dish d", NO_DISH, (x, d) -> x.dish(d, 0));
        bad("dish d, smoke", NO_DISH, (x, d) -> x.dish(d, 5));
        bad("dish d, word", NO_DISH, (x, d) -> x.dish(d, 6));
        bad("dish d, units", NO_DISH, (x, d) -> x.dish(d, 7));
        bad("dish what", NOT_0_TO_7, (x, what) -> x.dish(2, what));
    }

    private static void supperCalls() {
        bad("cook h", NO_HOUSE, (x, h) -> x.cook(h, 2));
        bad("cook d", NO_DISH, (x, d) -> x.cook(0, d));
        bad("gives h", NO_HOUSE, (x, h) -> x.gives(h, 1, 1, 1));
        bad("gives to", NO_HOUSE, (x, to) -> x.gives(0, to, 1, 1));
        bad("gives to itself", new int[] {0, 1}, (x, h) -> x.gives(h, h, 4, 1));
        int[] noGood = {-1, 5, 6, MOST, LEAST};
        bad("gives good", noGood, (x, good) -> x.gives(0, 1, good, 1));
        bad("gives good, the other way", noGood, (x, good) -> x.gives(1, 0, good, 1));
        int[] not1To9 = {0, -1, -9, 10, 11, MOST, LEAST};
        bad("gives n", not1To9, (x, n) -> x.gives(0, 1, 1, n));
        bad("burns h", NO_HOUSE, SmokeTalk::burns);
        int[] noPlume = {-1, 2, 3, 19, 20, MOST, LEAST};
        bad("plume k", noPlume, (x, k) -> x.plume(k, 0));
        bad("plume k, smoke", noPlume, (x, k) -> x.plume(k, 1));
        bad("plume what", NOT_0_TO_1, (x, what) -> x.plume(1, what));
        int[] noFog = {-1, 6, 7, 10, MOST, LEAST};
        bad("fog f", noFog, SmokeTalk::fog);
    }

    private static void wordCalls() {
        bad("says h", NO_HOUSE, (x, h) -> x.says(h, 1, -1, -1, -1));
        bad("says a", NOT_0_TO_7, (x, a) -> x.says(0, a, 1, 1, -1));
        bad("says a alone", NOT_0_TO_7, (x, a) -> x.says(0, a, -1, -1, -1));
        bad("says b", NO_WORD_OR_NONE, (x, b) -> x.says(0, 1, b, 1, -1));
        bad("says b at the end", NO_WORD_OR_NONE, (x, b) -> x.says(0, 1, b, -1, -1));
        bad("says c", NO_WORD_OR_NONE, (x, c) -> x.says(0, 1, 1, c, -1));
        bad("says c behind -1", NO_WORD_OR_NONE, (x, c) -> x.says(0, 1, -1, c, -1));
        bad("says -1 ahead of a WORD", new int[] {0, 1, 7}, (x, c) -> x.says(0, 1, -1, c, -1));
        bad("says -1, -1 ahead of a WORD", new int[] {0, 1, 7}, (x, c) -> x.says(0, -1, -1, c, -1));
        bad("says -1 ahead of a WORD alone", new int[] {0, 1, 7}, (x, b) -> x.says(0, -1, b, -1, -1));
        int[] noPlace = {-2, 3, 4, MOST, LEAST};
        bad("says i", noPlace, (x, i) -> x.says(0, 1, 1, 1, i));
        bad("says i of what can't be said", noPlace, (x, i) -> x.says(0, 7, -1, -1, i));
        bad("nearest h", NO_HOUSE, (x, h) -> x.nearest(h, 1, -1, -1));
        bad("nearest a", NOT_0_TO_7, (x, a) -> x.nearest(0, a, 1, 1));
        bad("nearest a alone", NOT_0_TO_7, (x, a) -> x.nearest(0, a, -1, -1));
        bad("nearest b", NO_WORD_OR_NONE, (x, b) -> x.nearest(0, 1, b, 1));
        bad("nearest c", NO_WORD_OR_NONE, (x, c) -> x.nearest(0, 1, 1, c));
        bad("nearest -1 ahead of a WORD", new int[] {0, 1, 7}, (x, c) -> x.nearest(0, 1, -1, c));
        bad("nearest -1, -1 ahead of a WORD", new int[] {0, 1, 7}, (x, c) -> x.nearest(0, -1, -1, c));
        bad("nearest c behind -1", NO_WORD_OR_NONE, (x, c) -> x.nearest(0, 1, -1, c));
        bad("reads smoke", NOT_0_TO_7, (x, smoke) -> x.reads(smoke, 0));
        bad("reads as", NOT_0_TO_7, (x, as) -> x.reads(0, as));
        bad("means smoke", NOT_0_TO_7, SmokeTalk::means);
        bad("chain word", NOT_0_TO_7, (x, word) -> x.chain(word, 1, 0));
        int[] not1To4 = {0, -1, 5, 6, MOST, LEAST};
        bad("chain k", not1To4, (x, k) -> x.chain(1, k, 0));
        bad("chain k, lower", not1To4, (x, k) -> x.chain(1, k, 1));
        bad("chain what", NOT_0_TO_1, (x, what) -> x.chain(1, 1, what));
        bad("chain what of a word that none says", NOT_0_TO_1, (x, what) -> x.chain(7, 1, what));
        bad("chain k of a word that none says", not1To4, (x, k) -> x.chain(7, k, 0));
        bad("who smoke", NOT_0_TO_7, (x, smoke) -> x.who(smoke, 0, 0));
        bad("who h", NO_HOUSE, (x, h) -> x.who(1, h, 0));
        bad("who what", NOT_0_TO_1, (x, what) -> x.who(1, 0, what));
    }

    private static void hungerCalls() {
        bad("days h", NO_HOUSE, SmokeTalk::days);
        int[] not0To255 = {-1, -256, 256, 257, 512, MOST, LEAST};
        bad("code words", not0To255, (x, words) -> x.code(words, 1, 0));
        bad("code words, most", not0To255, (x, words) -> x.code(words, 1, 1));
        int[] not1To3 = {0, -1, 4, 5, MOST, LEAST};
        bad("code d", not1To3, (x, d) -> x.code(2, d, 0));
        bad("code d, most", not1To3, (x, d) -> x.code(2, d, 1));
        bad("code d of no words", not1To3, (x, d) -> x.code(0, d, 0));
        bad("code what", NOT_0_TO_1, (x, what) -> x.code(2, 1, what));
        bad("code what of no words", NOT_0_TO_1, (x, what) -> x.code(0, 1, what));
        int[] noneOfThese = {0, 8, 16, 0xF8, 256, LEAST, -8};
        bad("feast set", noneOfThese, (x, set) -> x.feast(set, 0));
        bad("feast set, word", noneOfThese, (x, set) -> x.feast(set, 1));
        bad("feast set, lie", noneOfThese, (x, set) -> x.feast(set, 2));
        bad("feast what", new int[] {-1, 3, 4, MOST, LEAST}, (x, what) -> x.feast(1, what));
        bad("silent n", new int[] {0, -1, 21, 22, MOST, LEAST}, SmokeTalk::silent);
        bad("drawn smoke", NOT_0_TO_7, SmokeTalk::drawn);
    }

    private static void kindCalls() {
        bad("mark kind", new int[] {-1, 6, 7, MOST, LEAST}, (x, kind) -> x.mark(kind, 0), -1000000);
        for (int kind = 0; kind < 6; kind++) {
            int of = kind;
            bad("mark d of kind " + kind, NO_DISH, (x, d) -> x.mark(of, d), -1000000);
        }
        bad("keep image", NOT_0_TO_1, SmokeTalk::keep);
        bad("back image", NOT_0_TO_1, SmokeTalk::back);
        for (int n : NOT_0_TO_1) refused("back, both kept " + n, RefusedTest::bothKept, x -> x.back(n), -1);
        for (int n : NOT_0_TO_1) refused("keep, both kept " + n, RefusedTest::bothKept, x -> x.keep(n), -1);
        bad("count what", new int[] {-1, 5, 6, MOST, LEAST}, SmokeTalk::count);
    }

    private static void stateIsAsTold() {
        refused("cook of what is not there", RefusedTest::busy, x -> x.cook(1, 1), -2);
        refused("cook of one good too much", RefusedTest::busy, x -> x.cook(0, 1), -2);
        refused("undo of none", SmokeTalk::new, SmokeTalk::undo, -2);
        refused("gives more than there is", RefusedTest::busy, x -> x.gives(1, 0, 3, 3), -2);
        refused("gives of none", RefusedTest::busy, x -> x.gives(1, 0, 1, 1), -2);
        refused("who of a smoke that none makes", RefusedTest::twoWithoutFog, x -> x.who(2, 0, 0), -2);
        refused("back where none was kept", RefusedTest::busy, x -> x.back(1), -2);
        refused("back of a new object, 0", SmokeTalk::new, x -> x.back(0), -2);
        refused("back of a new object, 1", SmokeTalk::new, x -> x.back(1), -2);
    }

    private static SmokeTalk twoWithoutFog() {
        SmokeTalk x = busy();
        x.fog(0);
        return x;
    }

    private static void fullIsAsTold() {
        refused("type above 300", RefusedTest::fullOfText, x -> x.type(0x20, 1), -3);
        refused("type of 8 above 300", RefusedTest::fullOfText, x -> x.type(0, 8), -3);
        refused("cook with twenty plumes", RefusedTest::fullOfPlumes, x -> x.cook(1, 2), -3);
        refused("cook by a house of no plume", RefusedTest::fullOfPlumes, x -> x.cook(0, 0), -3);
        refused("gives above 9", RefusedTest::busy, x -> x.gives(0, 1, 3, 8), -3);
        refused("gives to one who has 9", RefusedTest::busy, x -> x.gives(0, 1, 4, 1), -3);
    }

    private static void badComesAheadOfState() {
        refused("cook d, with no such house", RefusedTest::busy, x -> x.cook(2, 1), -1);
        refused("cook no such dish by a poor house", RefusedTest::busy, x -> x.cook(1, 3), -1);
        refused("gives to itself more than there is", RefusedTest::busy, x -> x.gives(1, 1, 3, 3), -1);
        refused("gives 10", RefusedTest::busy, x -> x.gives(1, 0, 3, 10), -1);
        refused("gives no such house what is not there", RefusedTest::busy, x -> x.gives(1, 2, 1, 1), -1);
        refused("who, what 2, where none can be", RefusedTest::twoWithoutFog, x -> x.who(2, 0, 2), -1);
        refused("who, house 2, where none can be", RefusedTest::twoWithoutFog, x -> x.who(2, 2, 0), -1);
        refused("who without houses", SmokeTalk::new, x -> x.who(0, 0, 0), -1);
        refused("back 2 of a new object", SmokeTalk::new, x -> x.back(2), -1);
        refused("back -1 of a new object", SmokeTalk::new, x -> x.back(-1), -1);
    }

    private static void badComesAheadOfFull() {
        refused("type 0 above 300", RefusedTest::fullOfText, x -> x.type(0x20, 0), -1);
        refused("type 9 above 300", RefusedTest::fullOfText, x -> x.type(0x20, 9), -1);
        refused("type most above 300", RefusedTest::fullOfText, x -> x.type(0x20, MOST), -1);
        refused("cook no such dish", RefusedTest::fullOfPlumes, x -> x.cook(1, 3), -1);
        refused("cook by no such house", RefusedTest::fullOfPlumes, x -> x.cook(2, 2), -1);
        refused("gives itself above 9", RefusedTest::busy, x -> x.gives(0, 0, 4, 9), -1);
        refused("gives 10 above 9", RefusedTest::busy, x -> x.gives(0, 1, 4, 10), -1);
    }

    private static void stateComesAheadOfFull() {
        refused("cook what is not there", RefusedTest::fullOfPlumes, x -> x.cook(1, 0), -2);
        refused("gives what is not there to one who has 9", RefusedTest::busy, x -> x.gives(1, 0, 1, 1), -2);
        refused("gives more than there is, above 9", RefusedTest::busy, x -> x.gives(1, 0, 3, 9), -2);
    }

    // "-10 less FAULT: nothing changes (THE TEXT, too, stays)."
    private static void faultsChangeNothing() {
        String[] texts = {
            "x", ";", "fog", "fog 6;", "house 1 2 3 4 5;house 5 5 5 5 5;fog 1;fog 1;",
            "dish 9 9 9 9 9 7 7;house 9 9 9 9 9;fog 5;dish 1", "house 0 0 0 0 0;house 0 0 0 0 0;#",
            "house 1 2 3 4 5;dish 1 2 3 4 5 6 8;", "fog 5;house 1 2 3 4 5 6;", "fog 0;01",
        };
        for (String text : texts) {
            Maker maker = () -> withText(text);
            SmokeTalk first = maker.make();
            refused("valley of " + text, maker, SmokeTalk::valley, first.valley());
            Checks.holds("a FAULT of " + text, first.valley() <= -10);
        }
        SmokeTalk x = withText("house 1 2 3 4 5;fog 4");
        Checks.due("ended too early", x.valley(), -10 - 21);
        Checks.due("what was typed is still there", x.type(0x3B, 1), 22);
        Checks.due("and is read with what came to it", x.valley(), 2);
        Checks.due("as told", x.house(0, 5) * 10 + x.count(3), 154);
    }

    private static SmokeTalk withText(String text) {
        SmokeTalk x = bothKept();
        x.clear();
        Checks.type(x, text);
        return x;
    }

    // Calls that only ask change nothing.
    private static void askingChangesNothing() {
        List<Call> asking = new ArrayList<>(List.of(
            x -> x.house(0, 5), x -> x.dish(1, 7), x -> x.plume(1, 1), x -> x.says(0, 1, 3, 1, -1),
            x -> x.says(1, 7, 2, 1, 0), x -> x.nearest(1, 3, 2, 3), x -> x.nearest(0, 1, 1, 1),
            x -> x.reads(1, 2), x -> x.means(1), x -> x.chain(1, 4, 0), x -> x.chain(7, 4, 1),
            x -> x.who(1, 0, 0), x -> x.days(0), x -> x.days(1), x -> x.code(14, 1, 0), x -> x.code(255, 2, 1),
            x -> x.feast(7, 0), x -> x.feast(-1, 2), x -> x.silent(1), x -> x.silent(20), x -> x.count(4),
            SmokeTalk::trace));
        for (int i = 0; i < asking.size(); i++) {
            Call call = asking.get(i);
            long want = call.of(bothKept());
            refused("asking " + i, RefusedTest::bothKept, call, want);
        }
    }
}
