// What is for dinner by smoke. ../shared/DOC.md says what each call answers;
// words in capitals in the comments are its terms.
public final class SmokeTalk {
    public static final int BAD = -1, STATE = -2, FULL = -3, NONE = -9;
    public static final int NO = -1000000;

    private static final int HOUSES = 6, DISHES = 8, GOODS = 5, WORDS = 8, SMOKES = 8;
    private static final int GOODS_MOST = 9, FOG_MOST = 5, PLUMES = 20, IMAGES = 2;
    private static final int TEXT_MOST = 300, BYTES_AT_ONCE = 8;
    private static final int SMOKE_BITS = 3, FOG_PARTS = 10, READING_PARTS = 1000;
    private static final int ROW = 3, WHOLE_ROW = 7, NO_WORD = -1, NO_SUCH_WORD = -5, NO_DISH = -1;
    private static final int FAULTS = -10;
    private static final int CHAIN_MOST = 4, DAYS_MOST = 30;
    private static final int LOT_TIMES = 1103515245, LOT_PLUS = 12345, LOT_UPPER = 16;
    // Euclid's steps for numbers below 2^63 stay under 93.
    private static final int DIVISOR_STEPS = 100;

    private final Text text;
    private final Telling telling;
    private final Menu menu;
    private final Suppers now;
    private final Suppers firstImage;
    private final Suppers secondImage;
    private final Speech speech;
    private final Chain links;
    private final int[] pot;
    private long traced;

    public SmokeTalk() {
        text = new Text();
        telling = new Telling();
        menu = new Menu();
        now = new Suppers();
        firstImage = new Suppers();
        secondImage = new Suppers();
        speech = new Speech();
        links = new Chain();
        pot = new int[GOODS];
        traced = 0;
    }

    // ---- the valley

    public int type(long v, int n) {
        if (n < 1 || n > BYTES_AT_ONCE) return BAD;
        if (text.length + n > TEXT_MOST) return FULL;
        for (int i = n - 1; i >= 0; i--) text.append((int) (v >>> (8 * i)) & 255);
        return text.length;
    }

    public int clear() {
        int had = text.length;
        text.length = 0;
        return had;
    }

    public int valley() {
        int items = telling.readAll(text);
        if (items < 0) return FAULTS - text.start;
        menu.become(telling.menu);
        telling.suppers.lottery = now.lottery;
        now.become(telling.suppers);
        firstImage.kept = false;
        secondImage.kept = false;
        text.length = 0;
        return items;
    }

    public int house(int h, int what) {
        if (!now.hasHouse(h) || what < 0 || what > GOODS) return BAD;
        return what < GOODS ? now.stock(h, what) : now.allStock(h);
    }

    public int dish(int d, int what) {
        if (!menu.lists(d) || what < 0) return BAD;
        if (what < GOODS) return menu.need(d, what);
        switch (what) {
            case 5: return menu.smokes[d];
            case 6: return menu.words[d];
            case 7: return menu.units[d];
            default: return BAD;
        }
    }

    // ---- suppers

    public int cook(int h, int d) {
        if (!now.hasHouse(h) || !menu.lists(d)) return BAD;
        if (!couldCook(h, d)) return STATE;
        if (now.plumes >= PLUMES) return FULL;
        for (int g = 0; g < GOODS; g++) now.change(h, g, -menu.need(d, g));
        now.rise(h, d);
        return menu.smokes[d];
    }

    public int undo() {
        if (now.plumes <= 0) return STATE;
        now.plumes--;
        int h = now.plumeHouses[now.plumes];
        int d = now.plumeDishes[now.plumes];
        for (int g = 0; g < GOODS; g++) {
            int room = GOODS_MOST - now.stock(h, g);
            now.change(h, g, Math.min(room, menu.need(d, g)));
        }
        return now.plumes;
    }

    public int gives(int h, int to, int good, int n) {
        if (!now.hasHouse(h) || !now.hasHouse(to) || h == to) return BAD;
        if (good < 0 || good >= GOODS || n < 1 || n > GOODS_MOST) return BAD;
        if (now.stock(h, good) < n) return STATE;
        if (now.stock(to, good) + n > GOODS_MOST) return FULL;
        now.change(h, good, -n);
        now.change(to, good, n);
        return now.stock(to, good);
    }

    public int burns(int h) {
        if (!now.hasHouse(h)) return BAD;
        int lost = now.allStock(h);
        for (int g = 0; g < GOODS; g++) now.change(h, g, -now.stock(h, g));
        return lost;
    }

    public int plume(int k, int what) {
        if (k < 0 || k >= now.plumes || what < 0 || what > 1) return BAD;
        return what == 0 ? now.plumeHouses[k] : menu.smokes[now.plumeDishes[k]];
    }

    public int fog(int f) {
        if (f < 0 || f > FOG_MOST) return BAD;
        int was = now.haze;
        now.haze = f;
        return was;
    }

    // ---- words

    public int says(int h, int a, int b, int c, int i) {
        if (!now.hasHouse(h) || !isRow(a, b, c) || i < -1 || i >= ROW) return BAD;
        speech.hear(a, b, c);
        now.fill(h, speech.left);
        int units = speech.fewestUnits(menu, WHOLE_ROW);
        if (units == NONE) return NONE;
        if (i < 0) return units;
        return i < speech.told ? speech.best[i] : NO_SUCH_WORD;
    }

    public int nearest(int h, int a, int b, int c) {
        if (!now.hasHouse(h) || !isRow(a, b, c)) return BAD;
        speech.hear(a, b, c);
        now.fill(h, speech.left);
        return speech.mostPlaces(menu);
    }

    public int reads(int smoke, int as) {
        if (!isSmoke(smoke) || !isSmoke(as)) return BAD;
        return now.thousandths(smoke, as);
    }

    public int means(int smoke) {
        if (!isSmoke(smoke)) return BAD;
        return menu.meaning(smoke);
    }

    public long chain(int word, int k, int what) {
        if (!isWord(word) || k < 1 || k > CHAIN_MOST || what < 0 || what > 1) return BAD;
        if (menu.leastSaying(word) == NO_DISH) return leastTerms(0, 1, what);
        links.begin(word);
        long lower = 1;
        for (int i = 0; i < k; i++) {
            links.read(menu, now);
            lower *= READING_PARTS;
        }
        return leastTerms(links.meant[word], lower, what);
    }

    public int who(int smoke, int h, int what) {
        if (!isSmoke(smoke) || !now.hasHouse(h) || what < 0 || what > 1) return BAD;
        int all = 0;
        for (int i = 0; i < now.houses; i++) all += weightOf(i, smoke);
        if (all == 0) return STATE;
        return (int) leastTerms(weightOf(h, smoke), all, what);
    }

    // ---- hunger, codes, feasts

    public int days(int h) {
        if (!now.hasHouse(h)) return BAD;
        now.fill(h, pot);
        for (int day = 0; day < DAYS_MOST; day++) {
            int d = menu.leanest(pot);
            if (d == NO_DISH) return day;
            menu.take(d, pot);
        }
        return DAYS_MOST;
    }

    public int code(int words, int d, int what) {
        if (words < 0 || words >= 1 << WORDS || d < 1 || d > SMOKE_BITS || what < 0 || what > 1) return BAD;
        int needed = Integer.bitCount(words);
        int most = 0;
        for (int set = 0; set < 1 << menu.dishes; set++) {
            int size = Integer.bitCount(set);
            if (size > needed || !menu.tellsApart(set, words, d)) continue;
            if (what == 0 && size == needed) return set;
            most = Math.max(most, size);
        }
        return what == 0 ? NONE : most;
    }

    public int feast(int set, int what) {
        int eaten = set & ((1 << menu.dishes) - 1);
        if (eaten == 0 || what < 0 || what > 2) return BAD;
        int smoke = menu.smokeOfAll(eaten);
        if (what == 0) return smoke;
        int word = menu.meaning(smoke);
        if (what == 1 || word == NONE) return word;
        return menu.anySays(eaten, word) ? 0 : 1;
    }

    public int silent(int n) {
        if (n < 1 || n > PLUMES) return BAD;
        int quiet = (1 << now.houses) - 1;
        for (int k = Math.max(0, now.plumes - n); k < now.plumes; k++) {
            quiet &= ~(1 << now.plumeHouses[k]);
        }
        return quiet;
    }

    public int drawn(int smoke) {
        if (!isSmoke(smoke)) return BAD;
        int seen = smoke;
        for (int bit = 0; bit < SMOKE_BITS; bit++) {
            if (now.draw() < now.haze) seen ^= 1 << bit;
        }
        return seen;
    }

    public int lot(int v) {
        int was = now.lottery;
        now.lottery = v;
        return was;
    }

    // ---- kinds, images

    public int mark(int kind, int d) {
        if (!menu.lists(d)) return NO;
        switch (kind) {
            case 0: return markOfDish(d);
            case 1: return markOfStew(d);
            case 2: return markOfRoast(d);
            case 3: return markOfBrides(d);
            case 4: return markOfPoor(d);
            case 5: return markOfBurnt(d);
            default: return NO;
        }
    }

    public int keep(int image) {
        if (image < 0 || image >= IMAGES) return BAD;
        Suppers place = imageOf(image);
        place.become(now);
        place.kept = true;
        return place.plumes;
    }

    public int back(int image) {
        if (image < 0 || image >= IMAGES) return BAD;
        Suppers place = imageOf(image);
        if (!place.kept) return STATE;
        now.become(place);
        return now.plumes;
    }

    public int count(int what) {
        switch (what) {
            case 0: return now.houses;
            case 1: return menu.dishes;
            case 2: return now.plumes;
            case 3: return now.haze;
            case 4: return text.length;
            default: return BAD;
        }
    }

    public long trace() {
        return traced;
    }

    // ---- what the calls share

    private static boolean isSmoke(int smoke) {
        return smoke >= 0 && smoke < SMOKES;
    }

    private static boolean isWord(int word) {
        return word >= 0 && word < WORDS;
    }

    private static boolean isRow(int a, int b, int c) {
        if (!isWord(a)) return false;
        if (b == NO_WORD) return c == NO_WORD;
        return isWord(b) && (c == NO_WORD || isWord(c));
    }

    private boolean couldCook(int h, int d) {
        now.fill(h, pot);
        return menu.fits(d, pot);
    }

    // How much of a READ SMOKE is owed to one house, in thousandths of a DISH.
    private int weightOf(int h, int smoke) {
        now.fill(h, pot);
        int weight = 0;
        for (int d = 0; d < menu.dishes; d++) {
            if (menu.fits(d, pot)) weight += now.thousandths(menu.smokes[d], smoke);
        }
        return weight;
    }

    private static long leastTerms(long upper, long lower, int what) {
        long a = upper;
        long b = lower;
        for (int i = 0; i < DIVISOR_STEPS && b != 0; i++) {
            long rest = a % b;
            a = b;
            b = rest;
        }
        if (a == 0) return BAD;
        return what == 0 ? upper / a : lower / a;
    }

    private Suppers imageOf(int image) {
        return image == 0 ? firstImage : secondImage;
    }

    private int markOfDish(int d) {
        traced += 1;
        return menu.units[d];
    }

    private int markOfStew(int d) {
        traced += 10;
        return markOfDish(d) * 2;
    }

    private int markOfRoast(int d) {
        traced += 100;
        return markOfDish(d) + menu.smokes[d];
    }

    private int markOfBrides(int d) {
        traced += 1000;
        return markOfStew(d) + d;
    }

    private int markOfPoor(int d) {
        traced += 10000;
        return markOfRoast(d) - menu.words[d];
    }

    private int markOfBurnt(int d) {
        traced += 100000;
        return markOfDish(d) + now.plumes;
    }

    // THE TEXT, and its TOKENS one behind another.
    private static final class Text {
        static final int END = 0, WRONG = 1, NUMBER = 2, ENDS_ITEM = 3, HOUSE = 4, DISH = 5, FOG = 6;
        static final int BLANK = 32, NUMBER_DIGITS = 2;

        final int[] bytes;
        int length;
        int at;
        // The TOKEN that was read last: its place, what it is, and its number.
        int start;
        int token;
        int number;

        Text() {
            bytes = new int[TEXT_MOST];
            length = 0;
        }

        void append(int b) {
            if (length >= TEXT_MOST) return;
            bytes[length] = b;
            length++;
        }

        void rewind() {
            at = 0;
            step();
        }

        void step() {
            while (at < length && bytes[at] == BLANK) at++;
            start = at;
            number = 0;
            if (at >= length) {
                token = END;
            } else if (isDigit(bytes[at])) {
                token = readNumber();
            } else if (isLetter(bytes[at])) {
                token = readName();
            } else {
                token = bytes[at] == ';' ? ENDS_ITEM : WRONG;
                at++;
            }
        }

        private int readNumber() {
            boolean leadingZero = bytes[start] == '0';
            while (at < length && isDigit(bytes[at])) {
                // Digits beyond those of 99 make it WRONG, so they need not be added.
                if (at - start < NUMBER_DIGITS) number = number * 10 + bytes[at] - '0';
                at++;
            }
            int digits = at - start;
            return digits > NUMBER_DIGITS || digits > 1 && leadingZero ? WRONG : NUMBER;
        }

        private int readName() {
            while (at < length && isLetter(bytes[at])) at++;
            if (spells("house")) return HOUSE;
            if (spells("dish")) return DISH;
            return spells("fog") ? FOG : WRONG;
        }

        private boolean spells(String name) {
            if (at - start != name.length()) return false;
            for (int i = 0; i < name.length(); i++) {
                if (bytes[start + i] != name.charAt(i)) return false;
            }
            return true;
        }

        private static boolean isDigit(int b) {
            return b >= '0' && b <= '9';
        }

        private static boolean isLetter(int b) {
            return b >= 'a' && b <= 'z';
        }
    }

    // Reads THE TEXT into a draft, so that a FAULT leaves the valley as it was.
    private static final class Telling {
        final Menu menu;
        final Suppers suppers;
        final int[] numbers;
        boolean fogTold;

        Telling() {
            menu = new Menu();
            suppers = new Suppers();
            numbers = new int[GOODS + 2];
            fogTold = false;
        }

        // How many ITEMS; -1 where the TOKEN that was read last can't stand there.
        int readAll(Text text) {
            menu.dishes = 0;
            suppers.houses = 0;
            suppers.plumes = 0;
            suppers.haze = 0;
            fogTold = false;
            text.rewind();
            for (int items = 0; items <= TEXT_MOST; items++) {
                if (text.token == Text.END) return items;
                if (!readItem(text)) return -1;
            }
            return -1;
        }

        private boolean readItem(Text text) {
            int item = text.token;
            if (!mayBegin(item)) return false;
            text.step();
            int many = numbersOf(item);
            for (int i = 0; i < many; i++) {
                if (text.token != Text.NUMBER || text.number > mostOf(item, i)) return false;
                numbers[i] = text.number;
                text.step();
            }
            if (text.token != Text.ENDS_ITEM) return false;
            draft(item);
            text.step();
            return true;
        }

        private boolean mayBegin(int item) {
            switch (item) {
                case Text.HOUSE: return suppers.houses < HOUSES;
                case Text.DISH: return menu.dishes < DISHES;
                case Text.FOG: return !fogTold;
                default: return false;
            }
        }

        private static int numbersOf(int item) {
            switch (item) {
                case Text.HOUSE: return GOODS;
                case Text.DISH: return GOODS + 2;
                case Text.FOG: return 1;
                default: return 0;
            }
        }

        private static int mostOf(int item, int place) {
            if (item == Text.FOG) return FOG_MOST;
            if (place < GOODS) return GOODS_MOST;
            return place == GOODS ? SMOKES - 1 : WORDS - 1;
        }

        private void draft(int item) {
            if (item == Text.HOUSE) {
                suppers.settle(numbers);
            } else if (item == Text.DISH) {
                menu.list(numbers);
            } else {
                suppers.haze = numbers[0];
                fogTold = true;
            }
        }
    }

    // The DISHES.
    private static final class Menu {
        final int[] needs;
        final int[] units;
        final int[] smokes;
        final int[] words;
        int dishes;

        Menu() {
            needs = new int[DISHES * GOODS];
            units = new int[DISHES];
            smokes = new int[DISHES];
            words = new int[DISHES];
            dishes = 0;
        }

        void become(Menu other) {
            dishes = other.dishes;
            for (int i = 0; i < DISHES * GOODS; i++) needs[i] = other.needs[i];
            for (int d = 0; d < DISHES; d++) {
                units[d] = other.units[d];
                smokes[d] = other.smokes[d];
                words[d] = other.words[d];
            }
        }

        void list(int[] numbers) {
            if (dishes >= DISHES || numbers.length < GOODS + 2) return;
            int all = 0;
            for (int g = 0; g < GOODS; g++) {
                needs[dishes * GOODS + g] = numbers[g];
                all += numbers[g];
            }
            units[dishes] = all;
            smokes[dishes] = numbers[GOODS];
            words[dishes] = numbers[GOODS + 1];
            dishes++;
        }

        boolean lists(int d) {
            return d >= 0 && d < dishes;
        }

        int need(int d, int good) {
            return needs[d * GOODS + good];
        }

        boolean fits(int d, int[] goods) {
            for (int g = 0; g < GOODS; g++) {
                if (need(d, g) > goods[g]) return false;
            }
            return true;
        }

        void take(int d, int[] goods) {
            for (int g = 0; g < GOODS; g++) goods[g] -= need(d, g);
        }

        void putBack(int d, int[] goods) {
            for (int g = 0; g < GOODS; g++) goods[g] += need(d, g);
        }

        // The DISH of the fewest UNITS that these goods are enough for.
        int leanest(int[] goods) {
            int found = NO_DISH;
            for (int d = 0; d < dishes; d++) {
                if (fits(d, goods) && (found == NO_DISH || units[d] < units[found])) found = d;
            }
            return found;
        }

        int leastSaying(int word) {
            for (int d = 0; d < dishes; d++) {
                if (words[d] == word) return d;
            }
            return NO_DISH;
        }

        int meaning(int smoke) {
            for (int d = 0; d < dishes; d++) {
                if (smokes[d] == smoke) return words[d];
            }
            return NONE;
        }

        int smokeOfAll(int set) {
            int smoke = 0;
            for (int d = 0; d < dishes; d++) {
                if (holds(set, d)) smoke |= smokes[d];
            }
            return smoke;
        }

        boolean anySays(int set, int word) {
            for (int d = 0; d < dishes; d++) {
                if (holds(set, d) && words[d] == word) return true;
            }
            return false;
        }

        // Whether a set has a WORD of these for each of its DISHES, each another one,
        // and SMOKES far enough apart.
        boolean tellsApart(int set, int needed, int distance) {
            int unsaid = needed;
            for (int d = 0; d < dishes; d++) {
                if (!holds(set, d)) continue;
                if (!holds(unsaid, words[d]) || !standsOff(set, d, distance)) return false;
                unsaid &= ~(1 << words[d]);
            }
            return true;
        }

        // Whether a DISH's SMOKE is far enough from those of the set's DISHES ahead of it.
        private boolean standsOff(int set, int d, int distance) {
            for (int e = 0; e < d; e++) {
                if (holds(set, e) && Integer.bitCount(smokes[e] ^ smokes[d]) < distance) return false;
            }
            return true;
        }

        private static boolean holds(int set, int i) {
            return (set >> i & 1) != 0;
        }
    }

    // What suppers change, and so what an IMAGE keeps: LARDERS, PLUMES, FOG, THE LOT.
    private static final class Suppers {
        final int[] larders;
        final int[] plumeHouses;
        final int[] plumeDishes;
        int houses;
        int plumes;
        int haze;
        int lottery;
        // Whether this is an IMAGE that was kept.
        boolean kept;

        Suppers() {
            larders = new int[HOUSES * GOODS];
            plumeHouses = new int[PLUMES];
            plumeDishes = new int[PLUMES];
            houses = 0;
            plumes = 0;
            haze = 0;
            lottery = 1;
            kept = false;
        }

        void become(Suppers other) {
            houses = other.houses;
            plumes = other.plumes;
            haze = other.haze;
            lottery = other.lottery;
            for (int i = 0; i < HOUSES * GOODS; i++) larders[i] = other.larders[i];
            for (int k = 0; k < PLUMES; k++) {
                plumeHouses[k] = other.plumeHouses[k];
                plumeDishes[k] = other.plumeDishes[k];
            }
        }

        void settle(int[] numbers) {
            if (houses >= HOUSES || numbers.length < GOODS) return;
            for (int g = 0; g < GOODS; g++) larders[houses * GOODS + g] = numbers[g];
            houses++;
        }

        boolean hasHouse(int h) {
            return h >= 0 && h < houses;
        }

        int stock(int h, int good) {
            return larders[h * GOODS + good];
        }

        int allStock(int h) {
            int all = 0;
            for (int g = 0; g < GOODS; g++) all += stock(h, g);
            return all;
        }

        void change(int h, int good, int by) {
            larders[h * GOODS + good] += by;
        }

        void fill(int h, int[] goods) {
            for (int g = 0; g < GOODS; g++) goods[g] = stock(h, g);
        }

        void rise(int h, int d) {
            if (plumes >= PLUMES) return;
            plumeHouses[plumes] = h;
            plumeDishes[plumes] = d;
            plumes++;
        }

        // READ: each bit turns about by FOG in 10, for itself.
        int thousandths(int smoke, int as) {
            int odds = 1;
            for (int bit = 0; bit < SMOKE_BITS; bit++) {
                boolean turned = ((smoke ^ as) >> bit & 1) != 0;
                odds *= turned ? haze : FOG_PARTS - haze;
            }
            return odds;
        }

        int draw() {
            lottery = lottery * LOT_TIMES + LOT_PLUS;
            return (lottery >>> LOT_UPPER) % FOG_PARTS;
        }
    }

    // SAYS and NEAREST: a row of WORDS, with one LARDER.
    private static final class Speech {
        final int[] row;
        final int[] chosen;
        final int[] best;
        final int[] left;
        int told;
        int fewest;

        Speech() {
            row = new int[ROW];
            chosen = new int[ROW];
            best = new int[ROW];
            left = new int[GOODS];
        }

        void hear(int a, int b, int c) {
            row[0] = a;
            row[1] = b;
            row[2] = c;
            told = b == NO_WORD ? 1 : c == NO_WORD ? 2 : 3;
        }

        // The UNITS of the best way to say the WORDS at these places (bits); NONE.
        int fewestUnits(Menu menu, int places) {
            fewest = NONE;
            choose(this, menu, 0, places, 0);
            return fewest;
        }

        int mostPlaces(Menu menu) {
            int most = 0;
            for (int places = 1; places < 1 << told; places++) {
                boolean more = Integer.bitCount(places) > Integer.bitCount(most);
                if (more && fewestUnits(menu, places) != NONE) most = places;
            }
            return most;
        }

        // Tries each DISH for the WORD at this place, and so on to the row's end: the ways
        // come in the order of their DISHES, so that of several the first one stays.
        private static void choose(Speech s, Menu menu, int place, int places, int units) {
            if (place >= s.told || place >= ROW) {
                s.compare(units);
                return;
            }
            if ((places >> place & 1) == 0) {
                choose(s, menu, place + 1, places, units);
                return;
            }
            for (int d = 0; d < menu.dishes; d++) {
                if (menu.words[d] != s.row[place] || !menu.fits(d, s.left)) continue;
                s.chosen[place] = d;
                menu.take(d, s.left);
                choose(s, menu, place + 1, places, units + menu.units[d]);
                menu.putBack(d, s.left);
            }
        }

        private void compare(int units) {
            if (fewest != NONE && units >= fewest) return;
            fewest = units;
            for (int i = 0; i < ROW; i++) best[i] = chosen[i];
        }
    }

    // CHAIN: how likely each WORD is to be meant, as parts of 1000 to the power of the READINGS.
    private static final class Chain {
        final long[] meant;
        final long[] next;

        Chain() {
            meant = new long[WORDS];
            next = new long[WORDS];
        }

        void begin(int word) {
            for (int w = 0; w < WORDS; w++) meant[w] = w == word ? 1 : 0;
        }

        void read(Menu menu, Suppers now) {
            for (int w = 0; w < WORDS; w++) next[w] = 0;
            for (int as = 0; as < SMOKES; as++) {
                int word = menu.meaning(as);
                if (!isWord(word)) continue;
                for (int w = 0; w < WORDS; w++) {
                    int d = menu.leastSaying(w);
                    if (d != NO_DISH) next[word] += meant[w] * now.thousandths(menu.smokes[d], as);
                }
            }
            for (int w = 0; w < WORDS; w++) meant[w] = next[w];
        }
    }
}
