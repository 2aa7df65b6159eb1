import java.util.Random;

// All promises at once: runs of random calls (always the same ones), each answer compared with
// the model's. What a call changes is seen by the calls behind it.
public final class ModelTest {
    private static final int OBJECTS = 1500;
    private static final int CALLS = 512;
    private static final int[] ODD = {-1, -2, 8, 9, 20, 21, 255, 256, -10, Integer.MIN_VALUE, Integer.MAX_VALUE, 1 << 30};

    private final Random random;
    private final SmokeTalk x = new SmokeTalk();
    private final Model m = new Model();
    // The text that is being typed, and how much of it has been.
    private String typing = "";
    private int typed = 0;

    private ModelTest(long seed) {
        random = new Random(seed);
    }

    public static void main(String[] args) {
        for (int seed = 0; seed < OBJECTS && !Checks.anyWrong(); seed++) {
            ModelTest run = new ModelTest(seed);
            for (int i = 0; i < CALLS && !Checks.anyWrong(); i++) run.step("object " + seed + ", call " + i + ": ");
        }
        Checks.end();
    }

    private int below(int n) {
        return random.nextInt(n);
    }

    // Mostly a number from 0 to most, at times another one.
    private int num(int most) {
        return below(40) == 0 ? ODD[below(ODD.length)] : below(most + 1);
    }

    private int house() {
        int houses = m.count(0);
        return below(30) == 0 ? num(6) : below(Math.max(1, houses));
    }

    private int dish() {
        int dishes = m.count(1);
        return below(30) == 0 ? num(8) : below(Math.max(1, dishes));
    }

    // Mostly words that some dish says.
    private int word() {
        int dishes = m.count(1);
        return dishes == 0 || below(8) == 0 ? num(7) : m.dish(below(dishes), 6);
    }

    private int wordOrNone() {
        return below(4) == 0 ? -1 : word();
    }

    private static final String[] BITS = {
        "house", "dish", "fog", ";", " ", "0", "1", "9", "10", "99", "100", "05", "feast", "hous", "A", "\t", "\u00ff", "-1", "6", "8",
    };

    private String text() {
        StringBuilder text = new StringBuilder();
        int most = 1 + below(9);
        int houses = below(12) == 0 ? below(8) : 1 + below(4);
        int dishes = below(12) == 0 ? below(10) : 2 + below(7);
        int fogs = below(15) == 0 ? 2 : below(2);
        while (houses + dishes + fogs > 0) {
            int pick = below(houses + dishes + fogs);
            if (pick < houses) {
                houses--;
                item(text, "house", new int[] {10, 10, 10, 10, 10});
            } else if (pick < houses + dishes) {
                dishes--;
                item(text, "dish", new int[] {most, most, 1 + below(most), 1 + below(most), 1 + below(most), 8, 8});
            } else {
                fogs--;
                item(text, "fog", new int[] {6});
            }
        }
        if (below(3) == 0) spoil(text);
        return text.length() > 300 ? text.substring(0, 300) : text.toString();
    }

    private void item(StringBuilder text, String name, int[] bounds) {
        blanks(text, 0);
        text.append(name);
        blanks(text, below(2));
        for (int i = 0; i < bounds.length; i++) {
            text.append(below(300) == 0 ? below(120) : below(bounds[i]));
            blanks(text, i + 1 < bounds.length ? 1 : 0);
        }
        text.append(';');
    }

    private void blanks(StringBuilder text, int least) {
        int n = least + (below(12) == 0 ? below(3) : 0);
        for (int i = 0; i < n; i++) text.append(' ');
    }

    private void spoil(StringBuilder text) {
        for (int times = 1 + below(2); times > 0; times--) {
            int at = below(text.length() + 1);
            switch (below(3)) {
                case 0 -> text.insert(at, BITS[below(BITS.length)]);
                case 1 -> text.delete(at, Math.min(text.length(), at + 1 + below(3)));
                default -> text.setLength(at);
            }
        }
    }

    private void step(String where) {
        if (typed < typing.length() && below(25) != 0) {
            typeOn(where);
        } else if (!typing.isEmpty() && below(25) != 0) {
            typing = "";
            typed = 0;
            Checks.due(where + "valley", x.valley(), m.valley());
        } else if (m.count(0) == 0 && below(3) != 0 || below(90) == 0) {
            Checks.due(where + "clear", x.clear(), m.clear());
            typing = text();
            typed = 0;
        } else {
            ask(where);
        }
    }

    private void typeOn(String where) {
        int n = Math.min(typing.length() - typed, 1 + below(8));
        long v = random.nextLong();
        for (int i = 0; i < n; i++) v = v << 8 | typing.charAt(typed + i);
        typed += n;
        Checks.due(where + "type", x.type(v, n), m.type(v, n));
    }

    private void ask(String where) {
        int which = below(32);
        if (which < 10) askSuppers(where, which);
        else if (which < 18) askWords(where, which);
        else if (which < 25) askHunger(where, which);
        else askRest(where, which);
    }

    private void askSuppers(String where, int which) {
        int h = house();
        int d = dish();
        int what = num(7);
        switch (which) {
            case 0 -> Checks.due(where + "house", x.house(h, what), m.house(h, what));
            case 1 -> Checks.due(where + "dish", x.dish(d, what), m.dish(d, what));
            case 2, 3, 4 -> Checks.due(where + "cook", x.cook(h, d), m.cook(h, d));
            case 5 -> Checks.due(where + "undo", x.undo(), m.undo());
            case 6 -> {
                int to = house();
                int good = num(4);
                int n = num(9);
                Checks.due(where + "gives", x.gives(h, to, good, n), m.gives(h, to, good, n));
            }
            case 7 -> {
                if (below(4) == 0) Checks.due(where + "burns", x.burns(h), m.burns(h));
            }
            case 8 -> {
                int k = num(20);
                int part = num(1);
                Checks.due(where + "plume", x.plume(k, part), m.plume(k, part));
            }
            default -> {
                int f = num(5);
                Checks.due(where + "fog", x.fog(f), m.fog(f));
            }
        }
    }

    private void askWords(String where, int which) {
        int h = house();
        int a = below(20) == 0 ? wordOrNone() : word();
        int b = wordOrNone();
        int c = b == -1 && below(10) != 0 ? -1 : wordOrNone();
        int s = num(7);
        int part = num(1);
        switch (which) {
            case 10, 11 -> {
                int i = below(20) == 0 ? num(3) : below(4) - 1;
                Checks.due(where + "says", x.says(h, a, b, c, i), m.says(h, a, b, c, i));
            }
            case 12, 13 -> Checks.due(where + "nearest", x.nearest(h, a, b, c), m.nearest(h, a, b, c));
            case 14 -> {
                int as = num(7);
                Checks.due(where + "reads", x.reads(s, as), m.reads(s, as));
            }
            case 15 -> Checks.due(where + "means", x.means(s), m.means(s));
            case 16 -> {
                int k = below(20) == 0 ? num(5) : 1 + below(4);
                Checks.due(where + "chain", x.chain(a, k, part), m.chain(a, k, part));
            }
            default -> Checks.due(where + "who", x.who(s, h, part), m.who(s, h, part));
        }
    }

    private void askHunger(String where, int which) {
        int h = house();
        int s = num(7);
        switch (which) {
            case 18 -> Checks.due(where + "days", x.days(h), m.days(h));
            case 19, 20 -> {
                int words = num(255);
                if (below(2) == 0) words = 0;
                for (int i = below(4); i > 0; i--) words |= 1 << (word() & 7);
                int d = below(20) == 0 ? num(4) : 1 + below(3);
                int what = num(1);
                Checks.due(where + "code", x.code(words, d, what), m.code(words, d, what));
            }
            case 21 -> {
                int set = below(6) == 0 ? random.nextInt() : below(2) == 0 ? 1 << dish() : num(255);
                int what = num(2);
                Checks.due(where + "feast", x.feast(set, what), m.feast(set, what));
            }
            case 22 -> {
                int n = num(21);
                Checks.due(where + "silent", x.silent(n), m.silent(n));
            }
            case 23 -> Checks.due(where + "drawn", x.drawn(s), m.drawn(s));
            default -> {
                int v = random.nextInt();
                Checks.due(where + "lot", x.lot(v), m.lot(v));
            }
        }
    }

    private void askRest(String where, int which) {
        int image = num(1);
        switch (which) {
            case 25, 26 -> {
                int kind = num(5);
                int d = dish();
                Checks.due(where + "mark", x.mark(kind, d), m.mark(kind, d));
            }
            case 27 -> Checks.due(where + "keep", x.keep(image), m.keep(image));
            case 28 -> Checks.due(where + "back", x.back(image), m.back(image));
            case 29 -> {
                int what = num(5);
                Checks.due(where + "count", x.count(what), m.count(what));
            }
            case 30 -> Checks.due(where + "trace", x.trace(), m.trace());
            default -> {
                int n = num(9);
                long v = random.nextLong();
                Checks.due(where + "type", x.type(v, n), m.type(v, n));
                if (below(2) == 0) Checks.due(where + "valley", x.valley(), m.valley());
                if (below(2) == 0) Checks.due(where + "clear", x.clear(), m.clear());
            }
        }
    }
}
