// Promises 7 to 12: cook, undo, gives, burns, plume, fog.
public final class SuppersTest {
    public static void main(String[] args) {
        cooking();
        cookingTouchesNoNeighbour();
        cookingUntilFull();
        undoing();
        giving();
        burning();
        plumes();
        fog();
        Checks.end();
    }

    private static void cooking() {
        SmokeTalk x = Checks.told("house 3 2 1 0 9; house 0 0 0 0 0; dish 1 2 0 0 0 5 0; dish 0 0 1 1 0 6 1; dish 0 0 0 0 0 7 2;");
        Checks.due("house 2", x.cook(2, 0), -1);
        Checks.due("house -1", x.cook(-1, 0), -1);
        Checks.due("dish 3", x.cook(0, 3), -1);
        Checks.due("dish -1", x.cook(0, -1), -1);
        Checks.due("one good is missing", x.cook(0, 1), -2);
        Checks.due("nothing is gone", x.house(0, 5), 15);
        Checks.due("no plume", x.count(2), 0);
        Checks.due("cook", x.cook(0, 0), 5);
        Checks.due("the neighbour has no less", x.house(1, 5), 0);
        Checks.due("good 0 is less", x.house(0, 0), 2);
        Checks.due("good 1 is less", x.house(0, 1), 0);
        Checks.due("good 2 is not", x.house(0, 2), 1);
        Checks.due("good 4 is not", x.house(0, 4), 9);
        Checks.due("a plume", x.count(2), 1);
        Checks.due("no more of good 1", x.cook(0, 0), -2);
        Checks.due("a dish of nothing", x.cook(1, 2), 7);
        Checks.due("two plumes", x.count(2), 2);
    }

    private static void cookingTouchesNoNeighbour() {
        SmokeTalk x = Checks.told("house 1 1 1 1 1; house 5 5 5 5 5; house 6 6 6 6 6; dish 1 1 1 1 1 5 0; dish 3 3 3 3 3 6 1;");
        x.cook(1, 1);
        Checks.due("ahead of it", x.house(0, 5), 5);
        Checks.due("itself", x.house(1, 5), 10);
        Checks.due("behind it", x.house(2, 5), 30);
        x.cook(1, 0);
        Checks.due("behind it still", x.house(2, 0), 6);
        x.undo();
        Checks.due("undo: behind it", x.house(2, 0), 6);
        Checks.due("undo: itself", x.house(1, 5), 10);
        x.gives(1, 0, 4, 2);
        Checks.due("given", x.house(0, 4) * 10 + x.house(1, 4), 30);
        Checks.due("no other good is given", x.house(0, 5) + x.house(1, 5), 15);
        x.burns(1);
        Checks.due("burnt: ahead of it", x.house(0, 5), 7);
        Checks.due("burnt: behind it", x.house(2, 5), 30);
    }

    private static void cookingUntilFull() {
        SmokeTalk x = Checks.told("house 9 0 0 0 0; dish 0 0 0 0 0 3 0; dish 1 0 0 0 0 4 0; dish 0 1 0 0 0 5 0;");
        for (int i = 0; i < 20; i++) Checks.due("cook " + i, x.cook(0, 0), 3);
        Checks.due("twenty are known", x.cook(0, 1), -3);
        Checks.due("nothing is gone", x.house(0, 0), 9);
        Checks.due("still twenty", x.count(2), 20);
        Checks.due("STATE ahead of FULL", x.cook(0, 2), -2);
        Checks.due("BAD ahead of FULL", x.cook(0, 3), -1);
        Checks.due("undo", x.undo(), 19);
        Checks.due("room for one", x.cook(0, 1), 4);
        Checks.due("full again", x.cook(0, 1), -3);
    }

    private static void undoing() {
        SmokeTalk x = Checks.told("house 9 9 0 0 0; house 0 0 0 0 0; dish 5 1 0 0 0 1 0; dish 2 0 0 0 0 2 0;");
        Checks.due("none", x.undo(), -2);
        x.cook(0, 0);
        x.cook(0, 1);
        Checks.due("two cooked", x.house(0, 0), 2);
        Checks.due("undo the latest", x.undo(), 1);
        Checks.due("its goods are back", x.house(0, 0), 4);
        Checks.due("the first plume stays", x.plume(0, 1), 1);
        Checks.due("the latest is gone", x.plume(1, 1), -1);
        Checks.due("undo the first", x.undo(), 0);
        Checks.due("good 0 is back", x.house(0, 0), 9);
        Checks.due("good 1 is back", x.house(0, 1), 9);
        Checks.due("none are left", x.undo(), -2);

        // What is above 9 is lost, of each of GOODS for itself.
        SmokeTalk y = Checks.told("house 5 9 0 0 0; house 7 0 0 0 0; dish 5 1 0 0 0 1 0;");
        y.cook(0, 0);
        y.gives(1, 0, 0, 7);
        Checks.due("undo above 9", y.undo(), 0);
        Checks.due("9 at most", y.house(0, 0), 9);
        Checks.due("the other one in full", y.house(0, 1), 9);
        Checks.due("the giver keeps none", y.house(1, 0), 0);

        SmokeTalk z = Checks.told("house 5 9 0 0 0; dish 5 1 0 0 0 1 0;");
        z.cook(0, 0);
        z.burns(0);
        Checks.due("undo after a fire", z.undo(), 0);
        Checks.due("what was cooked comes back alone", z.house(0, 5), 6);
    }

    private static void giving() {
        SmokeTalk x = Checks.told("house 9 3 0 0 0; house 4 0 0 0 9; house 9 9 9 9 9;");
        Checks.due("to itself", x.gives(0, 0, 0, 1), -1);
        Checks.due("no such giver", x.gives(3, 0, 0, 1), -1);
        Checks.due("giver -1", x.gives(-1, 0, 0, 1), -1);
        Checks.due("no such taker", x.gives(0, 3, 0, 1), -1);
        Checks.due("taker -1", x.gives(0, -1, 0, 1), -1);
        Checks.due("good 5", x.gives(0, 1, 5, 1), -1);
        Checks.due("good -1", x.gives(0, 1, -1, 1), -1);
        Checks.due("n 0", x.gives(0, 1, 0, 0), -1);
        Checks.due("n 10", x.gives(2, 1, 0, 10), -1);
        Checks.due("n -1", x.gives(2, 1, 0, -1), -1);
        Checks.due("not so much", x.gives(0, 1, 1, 4), -2);
        Checks.due("STATE ahead of FULL", x.gives(0, 2, 1, 4), -2);
        Checks.due("above 9", x.gives(0, 1, 0, 6), -3);
        Checks.due("nothing changed", x.house(0, 5) * 100 + x.house(1, 5), 1213);
        Checks.due("to 9", x.gives(0, 1, 0, 5), 9);
        Checks.due("the giver has less", x.house(0, 0), 4);
        Checks.due("full", x.gives(0, 1, 0, 1), -3);
        Checks.due("all of it", x.gives(0, 1, 1, 3), 3);
        Checks.due("none left", x.house(0, 1), 0);
        Checks.due("and back", x.gives(1, 0, 1, 1), 1);
        Checks.due("nine at once", x.gives(1, 0, 4, 9), 9);
        Checks.due("no plume by giving", x.count(2), 0);
    }

    private static void burning() {
        SmokeTalk x = Checks.told("house 9 3 0 1 2; house 4 0 0 0 9;");
        Checks.due("house 2", x.burns(2), -1);
        Checks.due("house -1", x.burns(-1), -1);
        Checks.due("a fire", x.burns(0), 15);
        for (int g = 0; g <= 5; g++) Checks.due("empty of " + g, x.house(0, g), 0);
        Checks.due("another fire", x.burns(0), 0);
        Checks.due("the neighbour", x.house(1, 5), 13);
    }

    private static void plumes() {
        SmokeTalk x = Checks.told("house 9 3 0 1 2; house 4 0 0 0 9; dish 1 0 0 0 0 6 2; dish 0 0 0 0 1 0 3;");
        Checks.due("none", x.plume(0, 0), -1);
        x.cook(1, 1);
        x.cook(0, 0);
        Checks.due("house of 0", x.plume(0, 0), 1);
        Checks.due("smoke of 0", x.plume(0, 1), 0);
        Checks.due("house of 1", x.plume(1, 0), 0);
        Checks.due("smoke of 1", x.plume(1, 1), 6);
        Checks.due("what 2", x.plume(0, 2), -1);
        Checks.due("what -1", x.plume(0, -1), -1);
        Checks.due("plume 2", x.plume(2, 0), -1);
        Checks.due("plume -1", x.plume(-1, 0), -1);
    }

    private static void fog() {
        SmokeTalk x = Checks.told("fog 4;");
        Checks.due("fog 6", x.fog(6), -1);
        Checks.due("fog -1", x.fog(-1), -1);
        Checks.due("fog 5", x.fog(5), 4);
        Checks.due("fog 0", x.fog(0), 5);
        Checks.due("fog 0 again", x.fog(0), 0);
        Checks.due("fog counted", x.count(3), 0);
    }
}
