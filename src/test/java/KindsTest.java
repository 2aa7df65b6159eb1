// Promises 25 to 29: mark, keep, back, count, trace; and the constants.
public final class KindsTest {
    public static void main(String[] args) {
        marks();
        marksWrongly();
        images();
        imagesKeepNothingElse();
        imagesAndUndo();
        counts();
        constants();
        Checks.end();
    }

    private static void marks() {
        SmokeTalk x = Checks.told("house 0 0 0 0 0; dish 0 0 0 0 0 6 7; dish 1 2 3 4 5 2 3; dish 0 0 0 0 0 0 7;");
        x.cook(0, 0);
        x.cook(0, 0);
        mark(x, 0, 1, 15, 1);
        mark(x, 1, 1, 30, 11);
        mark(x, 2, 1, 17, 101);
        mark(x, 3, 1, 31, 1011);
        mark(x, 4, 1, 14, 10101);
        mark(x, 5, 1, 17, 100001);
        mark(x, 3, 0, 0, 1011);
        mark(x, 3, 2, 2, 1011);
        mark(x, 4, 0, -1, 10101);
        mark(x, 4, 2, -7, 10101);
        x.undo();
        mark(x, 5, 1, 16, 100001);
        Checks.due("nothing is cooked", x.count(2), 1);
    }

    private static void mark(SmokeTalk x, int kind, int d, int want, long traced) {
        long before = x.trace();
        Checks.due("mark(" + kind + ", " + d + ")", x.mark(kind, d), want);
        Checks.due("trace of it", x.trace() - before, traced);
    }

    private static void marksWrongly() {
        SmokeTalk x = Checks.told("dish 1 2 3 4 5 2 3;");
        Checks.due("kind 6", x.mark(6, 0), -1000000);
        Checks.due("kind -1", x.mark(-1, 0), -1000000);
        Checks.due("dish 1", x.mark(0, 1), -1000000);
        Checks.due("dish -1", x.mark(5, -1), -1000000);
        Checks.due("refused: no trace", x.trace(), 0);
    }

    private static void images() {
        SmokeTalk x = Checks.told("house 9 0 0 0 0; house 0 9 0 0 0; dish 1 0 0 0 0 5 1; dish 0 1 0 0 0 6 2; fog 2;");
        Checks.due("keep 2", x.keep(2), -1);
        Checks.due("keep -1", x.keep(-1), -1);
        Checks.due("back 2", x.back(2), -1);
        Checks.due("back -1", x.back(-1), -1);
        Checks.due("back of none", x.back(1), -2);
        x.cook(0, 0);
        x.lot(11);
        Checks.due("keep 0", x.keep(0), 1);
        Checks.due("back of the other", x.back(1), -2);
        x.cook(1, 1);
        x.cook(1, 1);
        x.fog(5);
        x.lot(22);
        x.burns(0);
        Checks.due("keep 1", x.keep(1), 3);
        x.gives(1, 0, 1, 4);
        Checks.due("back to 0", x.back(0), 1);
        Checks.due("larder 0", x.house(0, 0), 8);
        Checks.due("larder 1", x.house(1, 1), 9);
        Checks.due("given is not", x.house(0, 1), 0);
        Checks.due("fog", x.count(3), 2);
        Checks.due("the lot", x.lot(33), 11);
        Checks.due("one plume", x.count(2), 1);
        x.cook(0, 0);
        Checks.due("an image stays as it was kept", x.back(0), 1);
        Checks.due("its larder", x.house(0, 0), 8);
        Checks.due("back to 1", x.back(1), 3);
        Checks.due("burnt there", x.house(0, 5), 0);
        Checks.due("larder 1 there", x.house(1, 1), 7);
        Checks.due("fog there", x.count(3), 5);
        Checks.due("the lot there", x.lot(1), 22);
        Checks.due("house of a plume there", x.plume(2, 0), 1);
        Checks.due("smoke of a plume there", x.plume(2, 1), 6);
        Checks.due("kept anew", x.keep(0), 3);
        Checks.due("and back", x.back(0), 3);
    }

    private static void imagesKeepNothingElse() {
        SmokeTalk x = Checks.told("house 9 0 0 0 0; dish 1 0 0 0 0 5 1;");
        x.keep(0);
        x.mark(0, 0);
        Checks.type(x, "fog");
        x.back(0);
        Checks.due("the trace stays", x.trace(), 1);
        Checks.due("the text stays", x.count(4), 3);
        SmokeTalk y = new SmokeTalk();
        Checks.due("keep of nothing", y.keep(1), 0);
        Checks.due("back to nothing", y.back(1), 0);
    }

    private static void imagesAndUndo() {
        SmokeTalk x = Checks.told("house 9 0 0 0 0; dish 2 0 0 0 0 5 1; dish 3 0 0 0 0 6 1;");
        x.cook(0, 0);
        x.keep(0);
        x.undo();
        x.cook(0, 1);
        x.back(0);
        Checks.due("the kept plume is undone", x.undo(), 0);
        Checks.due("with what was cooked for it", x.house(0, 0), 9);

        SmokeTalk y = Checks.told("house 9 0 0 0 0; house 8 0 0 0 0; dish 2 0 0 0 0 5 1; dish 1 0 0 0 0 6 1;");
        y.cook(0, 0);
        y.cook(1, 0);
        y.keep(1);
        y.undo();
        y.undo();
        y.cook(1, 1);
        y.cook(0, 1);
        Checks.due("back", y.back(1), 2);
        Checks.due("house of the first plume", y.plume(0, 0), 0);
        Checks.due("smoke of the first plume", y.plume(0, 1), 5);
        Checks.due("house of the second plume", y.plume(1, 0), 1);
        Checks.due("smoke of the second plume", y.plume(1, 1), 5);
        y.undo();
        Checks.due("the second one's goods", y.house(1, 0), 8);
        Checks.due("the first one's not yet", y.house(0, 0), 7);
    }

    private static void counts() {
        SmokeTalk x = Checks.told("house 9 0 0 0 0; house 9 0 0 0 0; dish 2 0 0 0 0 5 1; dish 2 0 0 0 0 5 1; dish 2 0 0 0 0 5 1; fog 1;");
        x.cook(0, 0);
        Checks.type(x, "fog 1");
        Checks.due("houses", x.count(0), 2);
        Checks.due("dishes", x.count(1), 3);
        Checks.due("plumes", x.count(2), 1);
        Checks.due("fog", x.count(3), 1);
        Checks.due("bytes", x.count(4), 5);
        Checks.due("what 5", x.count(5), -1);
        Checks.due("what -1", x.count(-1), -1);
    }

    private static void constants() {
        Checks.due("BAD", SmokeTalk.BAD, -1);
        Checks.due("STATE", SmokeTalk.STATE, -2);
        Checks.due("FULL", SmokeTalk.FULL, -3);
        Checks.due("NONE", SmokeTalk.NONE, -9);
        Checks.due("NO", SmokeTalk.NO, -1000000);
    }
}
