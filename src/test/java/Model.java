import java.math.BigInteger;
import java.nio.charset.StandardCharsets;
import java.util.ArrayList;
import java.util.HashMap;
import java.util.HashSet;
import java.util.List;
import java.util.Map;
import java.util.Set;
import java.util.regex.Matcher;
import java.util.regex.Pattern;

// The document once more, told in another way (slowly, by lists, sets and fractions), for ModelTest.
final class Model {
    private static final Pattern TOKEN = Pattern.compile("[a-z]+|[0-9]+|;");

    record Dish(int number, int[] needs, int smoke, int word) {
        int units() {
            int all = 0;
            for (int n : needs) all += n;
            return all;
        }
    }

    record Plume(int house, Dish dish) { }

    record Kept(List<int[]> larders, List<Plume> plumes, int fog, int lot) { }

    private String text = "";
    private List<int[]> larders = new ArrayList<>();
    private List<Dish> dishes = new ArrayList<>();
    private List<Plume> plumes = new ArrayList<>();
    private int fog = 0;
    private int lot = 1;
    private long trace = 0;
    private final Map<Integer, Kept> images = new HashMap<>();

    int type(long v, int n) {
        if (n < 1 || n > 8) return -1;
        if (text.length() + n > 300) return -3;
        byte[] all = BigInteger.valueOf(v).add(BigInteger.ONE.shiftLeft(72)).toByteArray();
        text += new String(all, all.length - n, n, StandardCharsets.ISO_8859_1);
        return text.length();
    }

    int clear() {
        int had = text.length();
        text = "";
        return had;
    }

    // The text is cut into TOKENS first; a place where none begins is a TOKEN "?".
    int valley() {
        List<String> tokens = new ArrayList<>();
        List<Integer> places = new ArrayList<>();
        for (int at = 0; at < text.length();) {
            Matcher m = TOKEN.matcher(text).region(at, text.length());
            if (text.charAt(at) == ' ') {
                at++;
            } else if (m.lookingAt()) {
                tokens.add(m.group());
                places.add(at);
                at = m.end();
            } else {
                tokens.add("?");
                places.add(at++);
            }
        }
        places.add(text.length());
        List<int[]> newLarders = new ArrayList<>();
        List<Dish> newDishes = new ArrayList<>();
        int newFog = -1;
        int items = 0;
        int t = 0;
        while (t < tokens.size()) {
            int[] most = switch (tokens.get(t)) {
                case "house" -> newLarders.size() == 6 ? null : new int[] {9, 9, 9, 9, 9};
                case "dish" -> newDishes.size() == 8 ? null : new int[] {9, 9, 9, 9, 9, 7, 7};
                case "fog" -> newFog >= 0 ? null : new int[] {5};
                default -> null;
            };
            if (most == null) return -10 - places.get(t);
            String what = tokens.get(t++);
            int[] told = new int[most.length];
            for (int i = 0; i < most.length; i++, t++) {
                boolean good = t < tokens.size() && tokens.get(t).matches("0|[1-9][0-9]?")
                    && Integer.parseInt(tokens.get(t)) <= most[i];
                if (!good) return -10 - places.get(t);
                told[i] = Integer.parseInt(tokens.get(t));
            }
            if (t >= tokens.size() || !tokens.get(t).equals(";")) return -10 - places.get(t);
            t++;
            items++;
            if (what.equals("house")) newLarders.add(told);
            if (what.equals("fog")) newFog = told[0];
            if (what.equals("dish")) {
                int[] needs = {told[0], told[1], told[2], told[3], told[4]};
                newDishes.add(new Dish(newDishes.size(), needs, told[5], told[6]));
            }
        }
        larders = newLarders;
        dishes = newDishes;
        plumes = new ArrayList<>();
        fog = Math.max(0, newFog);
        images.clear();
        text = "";
        return items;
    }

    private boolean house(int h) {
        return h >= 0 && h < larders.size();
    }

    private boolean dish(int d) {
        return d >= 0 && d < dishes.size();
    }

    int house(int h, int what) {
        if (!house(h) || what < 0 || what > 5) return -1;
        int[] larder = larders.get(h);
        return what < 5 ? larder[what] : larder[0] + larder[1] + larder[2] + larder[3] + larder[4];
    }

    int dish(int d, int what) {
        if (!dish(d) || what < 0 || what > 7) return -1;
        Dish dish = dishes.get(d);
        if (what < 5) return dish.needs[what];
        return what == 5 ? dish.smoke : what == 6 ? dish.word : dish.units();
    }

    private static boolean enough(int[] larder, List<Dish> all) {
        for (int g = 0; g < 5; g++) {
            int needed = 0;
            for (Dish d : all) needed += d.needs[g];
            if (needed > larder[g]) return false;
        }
        return true;
    }

    int cook(int h, int d) {
        if (!house(h) || !dish(d)) return -1;
        Dish dish = dishes.get(d);
        if (!enough(larders.get(h), List.of(dish))) return -2;
        if (plumes.size() == 20) return -3;
        for (int g = 0; g < 5; g++) larders.get(h)[g] -= dish.needs[g];
        plumes.add(new Plume(h, dish));
        return dish.smoke;
    }

    int undo() {
        if (plumes.isEmpty()) return -2;
        Plume last = plumes.remove(plumes.size() - 1);
        int[] larder = larders.get(last.house);
        for (int g = 0; g < 5; g++) larder[g] = Math.min(9, larder[g] + last.dish.needs[g]);
        return plumes.size();
    }

    int gives(int h, int to, int good, int n) {
        if (!house(h) || !house(to) || h == to || good < 0 || good > 4 || n < 1 || n > 9) return -1;
        if (larders.get(h)[good] < n) return -2;
        if (larders.get(to)[good] + n > 9) return -3;
        larders.get(h)[good] -= n;
        return larders.get(to)[good] += n;
    }

    int burns(int h) {
        if (!house(h)) return -1;
        int lost = house(h, 5);
        larders.set(h, new int[5]);
        return lost;
    }

    int plume(int k, int what) {
        if (k < 0 || k >= plumes.size() || what < 0 || what > 1) return -1;
        return what == 0 ? plumes.get(k).house : plumes.get(k).dish.smoke;
    }

    int fog(int f) {
        if (f < 0 || f > 5) return -1;
        int was = fog;
        fog = f;
        return was;
    }

    // The row as a list; null if it is none.
    private static List<Integer> row(int a, int b, int c) {
        List<Integer> row = new ArrayList<>();
        boolean over = false;
        for (int word : new int[] {a, b, c}) {
            if (word < -1 || word > 7 || over && word != -1) return null;
            if (word == -1) over = true;
            else row.add(word);
        }
        return row.isEmpty() ? null : row;
    }

    // All ways to say a row, in their order; goods are asked when a way is whole.
    private List<List<Dish>> ways(int[] larder, List<Integer> row) {
        List<List<Dish>> ways = new ArrayList<>();
        ways.add(List.of());
        for (int word : row) {
            List<List<Dish>> longer = new ArrayList<>();
            for (List<Dish> way : ways) {
                for (Dish d : dishes) {
                    if (d.word != word) continue;
                    List<Dish> more = new ArrayList<>(way);
                    more.add(d);
                    longer.add(more);
                }
            }
            ways = longer;
        }
        ways.removeIf(way -> !enough(larder, way));
        return ways;
    }

    private static int units(List<Dish> way) {
        int all = 0;
        for (Dish d : way) all += d.units();
        return all;
    }

    int says(int h, int a, int b, int c, int i) {
        List<Integer> row = row(a, b, c);
        if (!house(h) || row == null || i < -1 || i > 2) return -1;
        List<List<Dish>> ways = ways(larders.get(h), row);
        if (ways.isEmpty()) return -9;
        List<Dish> best = ways.get(0);
        for (List<Dish> way : ways) if (units(way) < units(best)) best = way;
        if (i == -1) return units(best);
        return i < row.size() ? best.get(i).number : -5;
    }

    int nearest(int h, int a, int b, int c) {
        List<Integer> row = row(a, b, c);
        if (!house(h) || row == null) return -1;
        int[] byMost = {7, 3, 5, 6, 1, 2, 4};
        for (int bits : byMost) {
            if (bits >> row.size() != 0) continue;
            List<Integer> part = new ArrayList<>();
            for (int i = 0; i < row.size(); i++) if ((bits & 1 << i) != 0) part.add(row.get(i));
            if (!ways(larders.get(h), part).isEmpty()) return bits;
        }
        return 0;
    }

    private static boolean eight(int n) {
        return n >= 0 && n < 8;
    }

    int reads(int smoke, int as) {
        if (!eight(smoke) || !eight(as)) return -1;
        int turned = Integer.bitCount(smoke ^ as);
        int odds = 1;
        for (int i = 0; i < 3; i++) odds *= i < turned ? fog : 10 - fog;
        return odds;
    }

    int means(int smoke) {
        if (!eight(smoke)) return -1;
        for (Dish d : dishes) if (d.smoke == smoke) return d.word;
        return -9;
    }

    private Dish saying(int word) {
        for (Dish d : dishes) if (d.word == word) return d;
        return null;
    }

    // Backwards, from the house that cooks d: in how many of 1000^k cases the word is meant at last.
    private BigInteger cases(Dish d, int k, int word) {
        BigInteger all = BigInteger.ZERO;
        for (int as = 0; as < 8; as++) {
            int meant = means(as);
            if (meant == -9 || k == 1 && meant != word) continue;
            BigInteger then = k == 1 ? BigInteger.ONE : cases(saying(meant), k - 1, word);
            all = all.add(then.multiply(BigInteger.valueOf(reads(d.smoke, as))));
        }
        return all;
    }

    private static long part(BigInteger upper, BigInteger lower, int what) {
        BigInteger g = upper.gcd(lower);
        return (what == 0 ? upper : lower).divide(g).longValueExact();
    }

    long chain(int word, int k, int what) {
        if (!eight(word) || k < 1 || k > 4 || what < 0 || what > 1) return -1;
        Dish first = saying(word);
        BigInteger upper = first == null ? BigInteger.ZERO : cases(first, k, word);
        return part(upper, BigInteger.valueOf(1000).pow(k), what);
    }

    int who(int smoke, int h, int what) {
        if (!eight(smoke) || !house(h) || what < 0 || what > 1) return -1;
        BigInteger his = BigInteger.ZERO;
        BigInteger all = BigInteger.ZERO;
        for (int i = 0; i < larders.size(); i++) {
            for (Dish d : dishes) {
                if (!enough(larders.get(i), List.of(d))) continue;
                BigInteger odds = BigInteger.valueOf(reads(d.smoke, smoke));
                all = all.add(odds);
                if (i == h) his = his.add(odds);
            }
        }
        return all.signum() == 0 ? -2 : (int) part(his, all, what);
    }

    int days(int h) {
        if (!house(h)) return -1;
        List<Dish> eaten = new ArrayList<>();
        List<Dish> byUnits = new ArrayList<>(dishes);
        byUnits.sort((d, e) -> d.units() != e.units() ? d.units() - e.units() : d.number - e.number);
        while (eaten.size() < 30) {
            Dish today = null;
            for (Dish d : byUnits) {
                List<Dish> more = new ArrayList<>(eaten);
                more.add(d);
                if (today == null && enough(larders.get(h), more)) today = d;
            }
            if (today == null) break;
            eaten.add(today);
        }
        return eaten.size();
    }

    // The CODE for words: dishes chosen word by word; the least bits of all; -9 if there are none.
    private int codeFor(List<Integer> words, int at, List<Dish> chosen, int d) {
        if (at == words.size()) {
            int bits = 0;
            for (Dish dish : chosen) bits += 1 << dish.number;
            return bits;
        }
        int least = -9;
        for (Dish dish : dishes) {
            boolean apart = dish.word == words.get(at);
            for (Dish other : chosen) apart &= Integer.bitCount(other.smoke ^ dish.smoke) >= d;
            if (!apart) continue;
            List<Dish> more = new ArrayList<>(chosen);
            more.add(dish);
            int bits = codeFor(words, at + 1, more, d);
            if (bits != -9 && (least == -9 || bits < least)) least = bits;
        }
        return least;
    }

    private static List<Integer> bitsOf(int set) {
        List<Integer> bits = new ArrayList<>();
        for (int i = 0; i < 8; i++) if ((set & 1 << i) != 0) bits.add(i);
        return bits;
    }

    int code(int words, int d, int what) {
        if (words < 0 || words > 255 || d < 1 || d > 3 || what < 0 || what > 1) return -1;
        if (what == 0) return codeFor(bitsOf(words), 0, List.of(), d);
        int most = 0;
        for (int part = 0; part < 256; part++) {
            if ((part & ~words) != 0 || Integer.bitCount(part) <= most) continue;
            if (codeFor(bitsOf(part), 0, List.of(), d) != -9) most = Integer.bitCount(part);
        }
        return most;
    }

    int feast(int set, int what) {
        Set<Dish> eaten = new HashSet<>();
        for (Dish d : dishes) if ((set >>> d.number & 1) == 1) eaten.add(d);
        if (eaten.isEmpty() || what < 0 || what > 2) return -1;
        int smoke = 0;
        for (Dish d : eaten) smoke |= d.smoke;
        int word = means(smoke);
        if (what == 0) return smoke;
        if (what == 1 || word == -9) return word;
        for (Dish d : eaten) if (d.word == word) return 0;
        return 1;
    }

    int silent(int n) {
        if (n < 1 || n > 20) return -1;
        int bits = 0;
        for (int h = 0; h < larders.size(); h++) {
            boolean heard = false;
            for (int i = 1; i <= n && i <= plumes.size(); i++) {
                heard |= plumes.get(plumes.size() - i).house == h;
            }
            if (!heard) bits |= 1 << h;
        }
        return bits;
    }

    int drawn(int smoke) {
        if (!eight(smoke)) return -1;
        int[] turns = new int[3];
        for (int i = 0; i < 3; i++) {
            lot = BigInteger.valueOf(lot).multiply(BigInteger.valueOf(1103515245)).add(BigInteger.valueOf(12345)).intValue();
            int upper = Integer.parseInt(String.format("%08x", lot).substring(0, 4), 16);
            turns[i] = upper % 10 < fog ? 1 : 0;
        }
        return smoke ^ (turns[0] + 2 * turns[1] + 4 * turns[2]);
    }

    int lot(int v) {
        int was = lot;
        lot = v;
        return was;
    }

    int mark(int kind, int d) {
        if (kind < 0 || kind > 5 || !dish(d)) return -1000000;
        Dish dish = dishes.get(d);
        int units = dish.units();
        int[] traces = {1, 11, 101, 1011, 10101, 100001};
        trace += traces[kind];
        int[] marks = {units, 2 * units, units + dish.smoke, 2 * units + d, units + dish.smoke - dish.word, units + plumes.size()};
        return marks[kind];
    }

    private static List<int[]> copy(List<int[]> larders) {
        List<int[]> copies = new ArrayList<>();
        for (int[] larder : larders) copies.add(larder.clone());
        return copies;
    }

    int keep(int image) {
        if (image != 0 && image != 1) return -1;
        images.put(image, new Kept(copy(larders), new ArrayList<>(plumes), fog, lot));
        return plumes.size();
    }

    int back(int image) {
        if (image != 0 && image != 1) return -1;
        Kept kept = images.get(image);
        if (kept == null) return -2;
        larders = copy(kept.larders);
        plumes = new ArrayList<>(kept.plumes);
        fog = kept.fog;
        lot = kept.lot;
        return plumes.size();
    }

    int count(int what) {
        int[] counts = {larders.size(), dishes.size(), plumes.size(), fog, text.length()};
        return what < 0 || what > 4 ? -1 : counts[what];
    }

    long trace() {
        return trace;
    }
}
