// The sentences of the document that name an edge of suppers, each with a test of its own
// (promises 7 to 12). The sentence stands above its test.
public final class SupperEdgesTest {
    public static void main(String[] args) {
        justEnough();
        smokes();
        twentyPlumes();
        oneBehindAnother();
        givesUpToNine();
        givesAllThereIs();
        fires();
        undoToNine();
        undoTheLatest();
        undoAll();
        fogEdges();
        sixHousesAndEightDishes();
        Checks.end();
    }

    // "its LARDER has all that this needs, and has that less"; "STATE: it has not all"
    private static void justEnough() {
        for (int good = 0; good < 5; good++) {
            StringBuilder needs = new StringBuilder("dish");
            for (int g = 0; g < 5; g++) needs.append(g == good ? " 4" : " 3");
            for (int has = 3; has <= 5; has++) {
                StringBuilder larder = new StringBuilder("house");
                for (int g = 0; g < 5; g++) larder.append(' ').append(g == good ? has : 3);
                SmokeTalk x = Checks.told("house 9 9 9 9 9;" + larder + ";" + needs + " 6 0;");
                String name = has + " of good " + good + " for 4";
                Checks.due(name, x.cook(1, 0), has < 4 ? -2 : 6);
                Checks.due(name + ": plumes", x.count(2), has < 4 ? 0 : 1);
                for (int g = 0; g < 5; g++) {
                    int left = has < 4 ? g == good ? has : 3 : g == good ? has - 4 : 0;
                    Checks.due(name + ": left of " + g, x.house(1, g), left);
                }
                Checks.due(name + ": the neighbour", x.house(0, 5), 45);
            }
        }
        SmokeTalk x = Checks.told("house 9 9 9 9 9;dish 9 9 9 9 9 7 7;dish 0 0 0 0 0 0 0;");
        Checks.due("the most", x.cook(0, 0), 7);
        Checks.due("nothing is left", x.house(0, 5), 0);
        Checks.due("not again", x.cook(0, 0), -2);
        Checks.due("of nothing, nothing", x.cook(0, 1), 0);
    }

    // "A house COOKS a DISH: the SMOKE"
    private static void smokes() {
        for (int smoke = 0; smoke < 8; smoke++) {
            SmokeTalk x = Checks.told("house 0 0 0 0 0;dish 0 0 0 0 0 " + smoke + " " + (7 - smoke) + ";");
            Checks.due("cook", x.cook(0, 0), smoke);
            Checks.due("its plume", x.plume(0, 1), smoke);
            Checks.due("its house", x.plume(0, 0), 0);
        }
    }

    // "20 at most are known"; "FULL: 20 PLUMES"
    private static void twentyPlumes() {
        SmokeTalk x = Checks.told("house 9 9 9 9 9;house 0 0 0 0 0;dish 0 0 0 0 0 3 0;dish 0 0 0 0 1 4 0;");
        for (int i = 0; i < 20; i++) {
            Checks.due("plume " + i + " is not known yet", x.plume(i, 0), -1);
            Checks.due("cook " + i, x.cook(i % 2, 0), 3);
            Checks.due("plumes " + i, x.count(2), i + 1);
            Checks.due("house of plume " + i, x.plume(i, 0), i % 2);
        }
        Checks.due("the 21st", x.cook(0, 0), -3);
        Checks.due("the 21st by the other house", x.cook(1, 0), -3);
        Checks.due("the 21st of another dish", x.cook(0, 1), -3);
        Checks.due("nothing is less", x.house(0, 5), 45);
        Checks.due("plume 19", x.plume(19, 0), 1);
        Checks.due("plume 20", x.plume(20, 0), -1);
        Checks.due("undo with twenty", x.undo(), 19);
        Checks.due("the 20th again", x.cook(0, 1), 4);
        Checks.due("full again", x.cook(0, 1), -3);
        Checks.due("the 20th's goods alone", x.house(0, 5), 44);
        x.burns(0);
        Checks.due("it has not all, ahead of twenty", x.cook(0, 1), -2);
        // A new text knows none.
        Checks.tell(x, "house 0 0 0 0 0;dish 0 0 0 0 0 3 0;");
        Checks.due("none are known", x.count(2), 0);
        Checks.due("room again", x.cook(0, 0), 3);
    }

    // "a PLUME (house, SMOKE) .. one behind another"
    private static void oneBehindAnother() {
        SmokeTalk x = Checks.told("house 0 0 0 0 0;house 0 0 0 0 0;house 0 0 0 0 0;dish 0 0 0 0 0 5 0;dish 0 0 0 0 0 2 0;");
        x.cook(2, 1);
        x.cook(0, 0);
        x.cook(1, 1);
        int[][] due = {{2, 2}, {0, 5}, {1, 2}};
        for (int k = 0; k < 3; k++) {
            Checks.due("house of " + k, x.plume(k, 0), due[k][0]);
            Checks.due("smoke of " + k, x.plume(k, 1), due[k][1]);
        }
        x.undo();
        Checks.due("what is undone is no plume", x.plume(2, 0), -1);
        Checks.due("nor its smoke", x.plume(2, 1), -1);
        x.cook(0, 1);
        Checks.due("the next takes its place", x.plume(2, 0), 0);
    }

    // "(that one has 9 at most then)"; "FULL: it would be above 9"
    private static void givesUpToNine() {
        for (int has = 0; has <= 9; has++) {
            for (int n = 1; n <= 9; n++) {
                SmokeTalk x = Checks.told("house 0 0 9 0 0;house 1 1 " + has + " 1 1;");
                boolean full = has + n > 9;
                String name = n + " to one who has " + has;
                Checks.due(name, x.gives(0, 1, 2, n), full ? -3 : has + n);
                Checks.due(name + ": the giver", x.house(0, 2), full ? 9 : 9 - n);
                Checks.due(name + ": the taker", x.house(1, 2), full ? has : has + n);
                Checks.due(name + ": the taker's others", x.house(1, 5) - x.house(1, 2), 4);
                Checks.due(name + ": the giver's others", x.house(0, 5) - x.house(0, 2), 0);
            }
        }
    }

    // "STATE: there is not so much"
    private static void givesAllThereIs() {
        for (int good = 0; good < 5; good++) {
            for (int n = 1; n <= 9; n++) {
                StringBuilder larder = new StringBuilder("house");
                for (int g = 0; g < 5; g++) larder.append(' ').append(g == good ? 4 : 9);
                SmokeTalk x = Checks.told("house 0 0 0 0 0;" + larder + ";");
                String name = n + " of 4 of good " + good;
                Checks.due(name, x.gives(1, 0, good, n), n > 4 ? -2 : n);
                Checks.due(name + ": left", x.house(1, good), n > 4 ? 4 : 4 - n);
                Checks.due(name + ": given", x.house(0, 5), n > 4 ? 0 : n);
            }
        }
    }

    // "A FIRE: its LARDER is empty": "how many UNITS are lost"
    private static void fires() {
        SmokeTalk x = Checks.told("house 9 9 9 9 9;house 0 0 0 0 1;house 1 2 3 4 5;dish 1 0 0 0 0 1 1;");
        Checks.due("the fullest", x.burns(0), 45);
        Checks.due("one", x.burns(1), 1);
        Checks.due("none", x.burns(1), 0);
        Checks.due("another's stays", x.house(2, 5), 15);
        x.cook(2, 0);
        Checks.due("what is there now", x.burns(2), 14);
        Checks.due("the plumes stay", x.count(2), 1);
        for (int h = 0; h < 3; h++) {
            for (int good = 0; good <= 5; good++) Checks.due("empty", x.house(h, good), 0);
        }
        Checks.due("nothing to cook of", x.cook(2, 0), -2);
        Checks.due("nothing to give", x.gives(2, 0, 1, 1), -2);
    }

    // "GOODS come back, 9 at most of each"
    private static void undoToNine() {
        for (int good = 0; good < 5; good++) {
            for (int given = 0; given <= 9; given++) {
                // House 0 has 9, cooks 6 of them, is given up to 6 (0 where that is too much), and undoes.
                StringBuilder nine = new StringBuilder("house");
                StringBuilder six = new StringBuilder("dish");
                for (int g = 0; g < 5; g++) {
                    nine.append(' ').append(g == good ? 9 : 8);
                    six.append(' ').append(g == good ? 6 : 1);
                }
                SmokeTalk x = Checks.told(nine + ";house 9 9 9 9 9;" + six + " 1 1;");
                x.cook(0, 0);
                if (given > 0) x.gives(1, 0, good, given);
                int has = given <= 6 ? 3 + given : 3;
                String name = "6 of good " + good + " back to " + has;
                Checks.due(name + ": had", x.house(0, good), has);
                Checks.due(name + ": undo", x.undo(), 0);
                Checks.due(name + ": has", x.house(0, good), Math.min(9, has + 6));
                Checks.due(name + ": the others", x.house(0, 5) - x.house(0, good), 32);
                Checks.due(name + ": the giver gets none back", x.house(1, good), given <= 6 ? 9 - given : 9);
            }
        }
    }

    // "UNDONE: the latest PLUME and what was cooked for it"
    private static void undoTheLatest() {
        SmokeTalk x = Checks.told("house 9 0 0 0 0;house 0 9 0 0 0;dish 2 0 0 0 0 1 1;dish 0 3 0 0 0 2 2;");
        x.cook(0, 0);
        x.cook(1, 1);
        x.cook(0, 0);
        Checks.due("the third", x.undo(), 2);
        Checks.due("house 0", x.house(0, 0), 7);
        Checks.due("house 1 not", x.house(1, 1), 6);
        Checks.due("the second", x.undo(), 1);
        Checks.due("house 1", x.house(1, 1), 9);
        Checks.due("the first stays", x.house(0, 0), 7);
        Checks.due("its plume too", x.plume(0, 1), 1);
        x.cook(1, 1);
        Checks.due("undo what was cooked since", x.undo(), 1);
        Checks.due("its goods", x.house(1, 1), 9);
    }

    // "how many PLUMES are left. STATE: none."
    private static void undoAll() {
        SmokeTalk x = Checks.told("house 9 0 0 0 0;dish 0 0 0 0 0 1 1;");
        Checks.due("none at first", x.undo(), -2);
        for (int i = 0; i < 20; i++) x.cook(0, 0);
        for (int i = 19; i >= 0; i--) Checks.due("left", x.undo(), i);
        Checks.due("none are left", x.undo(), -2);
        Checks.due("and none again", x.undo(), -2);
        Checks.due("none counted", x.count(2), 0);
        Checks.due("of a new object", new SmokeTalk().undo(), -2);
    }

    // "FOG becomes f (0 .. 5): what it was."
    private static void fogEdges() {
        SmokeTalk x = new SmokeTalk();
        int was = 0;
        for (int f : new int[] {5, 0, 5, 5, 1, 4, 3, 2, 0, 0}) {
            Checks.due("fog " + f, x.fog(f), was);
            Checks.due("6", x.fog(6), -1);
            Checks.due("-1", x.fog(-1), -1);
            Checks.due("it is", x.count(3), f);
            was = f;
        }
    }

    private static void sixHousesAndEightDishes() {
        StringBuilder text = new StringBuilder();
        for (int h = 0; h < 6; h++) text.append("house 9 0 0 0 ").append(h).append(";");
        for (int d = 0; d < 8; d++) text.append("dish 1 0 0 0 0 ").append(d).append(" 0;");
        SmokeTalk x = Checks.told(text.toString());
        for (int h = 0; h < 6; h++) {
            Checks.due("cook", x.cook(h, 7 - h), 7 - h);
            Checks.due("of itself", x.house(h, 0), 8);
        }
        Checks.due("house 5 to house 0", x.gives(5, 0, 4, 5), 5);
        Checks.due("house 0 to house 5", x.gives(0, 5, 4, 5), 5);
        Checks.due("house 5 burns", x.burns(5), 13);
        Checks.due("house 4 does not", x.house(4, 5), 12);
        Checks.due("plume of house 5", x.plume(5, 0), 5);
        Checks.due("its smoke", x.plume(5, 1), 2);
        Checks.due("undo house 5's", x.undo(), 5);
        Checks.due("its goods", x.house(5, 5), 1);
        Checks.due("house 6", x.cook(6, 0), -1);
        Checks.due("dish 8", x.cook(0, 8), -1);
    }
}
