// The sentences of the document that name an edge of HOUSES, DISHES, FOG, THE TEXT, its TOKENS and
// FAULT, each with a test of its own (promises 1 to 6). The sentence stands above its test.
public final class TextEdgesTest {
    private static final String HOUSE = "house 0 0 0 0 0;";
    private static final String DISH = "dish 0 0 0 0 0 0 0;";

    public static void main(String[] args) {
        housesAreSixAtMost();
        larders();
        dishesAreEightAtMost();
        needs();
        smokesAndWords();
        units();
        fogs();
        threeHundredBytes();
        blanks();
        tokensWithoutBlanks();
        everyByteAlone();
        everyByteBehindAWord();
        everyByteBehindANumber();
        everyByteBehindAnItem();
        noItems();
        eachEndedBySemicolon();
        fogOnceAtMost();
        numbers();
        numbersWhereNoneCanStand();
        wordsOfTheseLettersAlone();
        theFirstFault();
        endsTooEarly();
        eachTokenMissing();
        lowestBytesOfType();
        typeUntilFull();
        clearEdges();
        emptyBehindATelling();
        aFaultKeepsTheText();
        aNewObject();
        Checks.end();
    }

    private static void good(String text, int items) {
        Checks.due("valley of " + text, Checks.tell(new SmokeTalk(), text), items);
    }

    private static void fault(String text, int at) {
        Checks.due("valley of " + text, Checks.tell(new SmokeTalk(), text), -10 - at);
    }

    // "HOUSES 0 .. (6 at most)"; "a seventh house"
    private static void housesAreSixAtMost() {
        StringBuilder text = new StringBuilder();
        for (int h = 0; h < 6; h++) {
            text.append("house ").append(h).append(" 0 0 0 ").append(9 - h).append(";");
            SmokeTalk x = Checks.told(text.toString());
            Checks.due(h + 1 + " houses", x.count(0), h + 1);
            for (int i = 0; i <= h; i++) {
                Checks.due("good 0 of " + i + " of " + (h + 1), x.house(i, 0), i);
                Checks.due("good 4 of " + i + " of " + (h + 1), x.house(i, 4), 9 - i);
            }
            Checks.due("no house " + (h + 1), x.house(h + 1, 0), -1);
        }
        fault(text + "house 0 0 0 0 0;", text.length());
        fault(text + " house", text.length() + 1);
        fault(text + "fog 1;" + DISH + "house 0 0 0 0 0;", text.length() + 6 + DISH.length());
        good(text + "fog 1;" + DISH, 8);
    }

    // "of each of GOODS 0 .. 4 so much (0 .. 9)"
    private static void larders() {
        for (int good = 0; good < 5; good++) {
            for (int n = 0; n <= 10; n++) {
                String text = "house" + row(5, good, n) + ";";
                if (n > 9) {
                    fault(text, 6 + 2 * good);
                    continue;
                }
                SmokeTalk x = Checks.told(text);
                for (int g = 0; g < 5; g++) Checks.due(text + " " + g, x.house(0, g), g == good ? n : 0);
                Checks.due(text + " all", x.house(0, 5), n);
            }
            fault("house" + row(5, good, 99) + ";", 6 + 2 * good);
        }
        Checks.due("all of the fullest", Checks.told("house 9 9 9 9 9;").house(0, 5), 45);
    }

    // Zeros, but for one place.
    private static String row(int length, int place, int n) {
        StringBuilder row = new StringBuilder();
        for (int i = 0; i < length; i++) row.append(' ').append(i == place ? n : 0);
        return row.toString();
    }

    // "DISHES 0 .. (8 at most)"; "a ninth dish"
    private static void dishesAreEightAtMost() {
        StringBuilder text = new StringBuilder();
        for (int d = 0; d < 8; d++) {
            text.append("dish ").append(d).append(" 0 0 0 ").append(9 - d).append(" ").append(d).append(" ").append(7 - d).append(";");
            SmokeTalk x = Checks.told(text.toString());
            Checks.due(d + 1 + " dishes", x.count(1), d + 1);
            for (int i = 0; i <= d; i++) {
                Checks.due("good 0 of dish " + i, x.dish(i, 0), i);
                Checks.due("good 4 of dish " + i, x.dish(i, 4), 9 - i);
                Checks.due("smoke of dish " + i, x.dish(i, 5), i);
                Checks.due("word of dish " + i, x.dish(i, 6), 7 - i);
                Checks.due("units of dish " + i, x.dish(i, 7), 9);
            }
            Checks.due("no dish " + (d + 1), x.dish(d + 1, 0), -1);
        }
        fault(text + DISH, text.length());
        fault(text + "  dish", text.length() + 2);
        fault(text + HOUSE + "fog 1;dish 1 1 1 1 1 1 1;", text.length() + HOUSE.length() + 6);
        good(text + HOUSE + "fog 1;", 10);
    }

    // "need of each of GOODS so much (0 .. 9)"
    private static void needs() {
        for (int good = 0; good < 5; good++) {
            for (int n = 0; n <= 10; n++) {
                String text = "dish" + row(7, good, n) + ";";
                if (n > 9) {
                    fault(text, 5 + 2 * good);
                    continue;
                }
                SmokeTalk x = Checks.told(text);
                for (int g = 0; g < 7; g++) Checks.due(text + " " + g, x.dish(0, g), g == good ? n : 0);
                Checks.due(text + " units", x.dish(0, 7), n);
            }
            fault("dish" + row(7, good, 99) + ";", 5 + 2 * good);
        }
    }

    // "burn with a SMOKE (0 .. 7, three bits), say a WORD (0 .. 7)"
    private static void smokesAndWords() {
        for (int n = 0; n <= 10; n++) {
            String smoke = "dish" + row(7, 5, n) + ";";
            String word = "dish" + row(7, 6, n) + ";";
            if (n > 7) {
                fault(smoke, 15);
                fault(word, 17);
                continue;
            }
            SmokeTalk x = Checks.told(smoke + word);
            Checks.due("smoke " + n, x.dish(0, 5), n);
            Checks.due("its word", x.dish(0, 6), 0);
            Checks.due("word " + n, x.dish(1, 6), n);
            Checks.due("its smoke", x.dish(1, 5), 0);
            Checks.due("they are no UNITS", x.dish(0, 7) + x.dish(1, 7), 0);
        }
    }

    // "UNITS of a DISH: all it needs, added"
    private static void units() {
        SmokeTalk x = Checks.told("dish 9 9 9 9 9 7 7;dish 0 0 0 0 0 7 7;dish 1 2 4 8 9 0 0;");
        Checks.due("the most", x.dish(0, 7), 45);
        Checks.due("none", x.dish(1, 7), 0);
        Checks.due("each of the five", x.dish(2, 7), 24);
    }

    // "FOG 0 .. 5 (0 at first)"
    private static void fogs() {
        Checks.due("at first", new SmokeTalk().count(3), 0);
        Checks.due("at first, answered by fog", new SmokeTalk().fog(5), 0);
        for (int f = 0; f <= 5; f++) {
            SmokeTalk x = Checks.told("fog " + f + ";");
            Checks.due("told " + f, x.count(3), f);
            Checks.due("and answered", x.fog(5 - f), f);
            Checks.due("it becomes", x.count(3), 5 - f);
        }
        for (int f = 6; f <= 11; f++) fault("fog " + f + ";", 4);
        fault("fog 55;", 4);
    }

    // "They are a text (300 bytes at most)"
    private static void threeHundredBytes() {
        String all = "house 9 9 9 9 9;".repeat(6) + "dish 9 9 9 9 9 7 7;".repeat(8) + "fog 5;";
        String blanks = " ".repeat(300 - all.length());
        SmokeTalk x = Checks.told(blanks + all);
        Checks.due("the houses of 300 bytes", x.count(0), 6);
        Checks.due("the dishes of 300 bytes", x.count(1), 8);
        Checks.due("the fog, up to the last byte", x.count(3), 5);
        good(all + blanks, 15);
        fault(blanks + all.substring(0, all.length() - 1) + "x", 299);
        fault(blanks + all.substring(0, all.length() - 1) + " ", 300);
        fault(blanks + all.substring(0, all.length() - 1), 299);
        fault(" ".repeat(299) + ";", 299);
        good(" ".repeat(300), 0);
    }

    // "blanks (32) ahead of, between and behind TOKENS as may be"
    private static void blanks() {
        String text = "  house   1  2   3 4     5    ;   fog  2 ;    dish 1 2 3 4 5   6  7   ;   ";
        SmokeTalk x = Checks.told(text);
        Checks.due("houses", x.count(0), 1);
        Checks.due("fog", x.count(3), 2);
        Checks.due("dish", x.dish(0, 7) * 100 + x.dish(0, 5) * 10 + x.dish(0, 6), 1567);
        good(" fog 1;", 1);
        good("fog 1; ", 1);
        good("fog 1 ;", 1);
        fault("fog 1;  x", 8);
        fault("   fog  6;", 8);
        // A blank inside ends a TOKEN.
        fault("fo g 1;", 0);
        fault("fog 1; f og 1;", 7);
        fault("house 1 2 3 4 5 5;", 16);
    }

    // "(none needed where TOKENS end without)"
    private static void tokensWithoutBlanks() {
        good("house1 2 3 4 5;dish1 2 3 4 5 6 7;fog5;", 3);
        good("fog5;house0 0 0 0 0;", 2);
        fault("1fog", 0);
        fault("fog1house", 4);
        fault("fog1fog1;", 4);
        fault("fogdish", 0);
        fault("housedish 1 2 3 4 5;", 0);
        // NUMBERS end at no NUMBER: 12 is one, so that too few are left.
        fault("house 12 3 4 5;", 6);
        fault("house 1 2 3 45;", 12);
        fault("fog;1", 3);
        fault(";;", 0);
    }

    // "of a byte that begins none": each of 256 as the first and only one.
    private static void everyByteAlone() {
        for (int b = 0; b < 256; b++) {
            SmokeTalk x = new SmokeTalk();
            x.type(b, 1);
            Checks.due("byte " + b + " alone", x.valley(), b == 32 ? 0 : -10);
            Checks.due("byte " + b + " alone: what is left", x.count(4), b == 32 ? 0 : 1);
        }
    }

    // Behind "fog": a blank and a NUMBER go on, a letter makes another word of it, no other byte can stand there.
    private static void everyByteBehindAWord() {
        for (int b = 0; b < 256; b++) {
            int at = 3;
            if (b == ' ' || b >= '0' && b <= '5') at = 4;
            if (b >= 'a' && b <= 'z') at = 0;
            SmokeTalk x = new SmokeTalk();
            Checks.type(x, "fog");
            x.type(b, 1);
            Checks.due("fog, byte " + b, x.valley(), -10 - at);
        }
    }

    // Behind "fog 1": a digit makes a NUMBER beyond 5 of it, a blank goes on, ; ends it.
    private static void everyByteBehindANumber() {
        for (int b = 0; b < 256; b++) {
            int due = -10 - 5;
            if (b == ' ') due = -10 - 6;
            if (b >= '0' && b <= '9') due = -10 - 4;
            if (b == ';') due = 1;
            SmokeTalk x = new SmokeTalk();
            Checks.type(x, "fog 1");
            x.type(b, 1);
            Checks.due("fog 1, byte " + b, x.valley(), due);
        }
    }

    private static void everyByteBehindAnItem() {
        for (int b = 0; b < 256; b++) {
            SmokeTalk x = new SmokeTalk();
            Checks.type(x, "fog 1;");
            x.type(b, 1);
            Checks.due("fog 1;, byte " + b, x.valley(), b == ' ' ? 1 : -10 - 6);
        }
    }

    // "ITEMS (none, too)"
    private static void noItems() {
        good("", 0);
        good(" ", 0);
        SmokeTalk x = Checks.told("house 1 2 3 4 5;dish 1 2 3 4 5 6 7;fog 3;");
        Checks.due("none", x.valley(), 0);
        Checks.due("no houses", x.count(0), 0);
        Checks.due("no dishes", x.count(1), 0);
        Checks.due("fog as at first", x.count(3), 0);
    }

    // "each ended by ;"
    private static void eachEndedBySemicolon() {
        fault("fog 1 dish 0 0 0 0 0 0 0;", 6);
        fault("house 1 2 3 4 5 fog 1;", 16);
        fault("dish 1 2 3 4 5 6 7 house 1 2 3 4 5;", 19);
        fault("fog 1;house 1 2 3 4 5", 21);
        fault("fog 1;;fog 2;", 6);
        fault(";fog 1;", 0);
    }

    // "fog F (once at most)"; "fog told again"
    private static void fogOnceAtMost() {
        fault("fog 1;fog 1;", 6);
        fault("fog 0;fog 0;", 6);
        fault("fog 0;" + HOUSE + DISH + " fog", 7 + HOUSE.length() + DISH.length());
        fault("fog 0; fog x", 7);
        good("fog 0;", 1);
        good(HOUSE + "fog 2;" + DISH, 3);
        // Once in each text.
        SmokeTalk x = Checks.told("fog 2;");
        Checks.due("told by the next text", Checks.tell(x, "fog 3;"), 1);
        Checks.due("as that tells", x.count(3), 3);
        Checks.due("not again", Checks.tell(x, "fog 1;fog 2;"), -16);
        x.clear();
        Checks.due("once, behind a FAULT", Checks.tell(x, "fog 1;"), 1);
    }

    // "a NUMBER beyond what it may be"; "a NUMBER above 99 or with a 0 ahead of others"
    private static void numbers() {
        for (String n : new String[] {"00", "01", "05", "09", "000", "0000000000", "007", "010", "100", "101", "999",
                "256", "4294967296", "4294967297", "18446744073709551616", "18446744073709551617", "65537", "10", "99"}) {
            fault("fog " + n + ";", 4);
            fault("fog " + n, 4);
            fault("house " + n + " 0 0 0 0;", 6);
            fault("house 0 0 0 0 " + n + ";", 14);
            fault("dish " + n + " 0 0 0 0 0 0;", 5);
            fault("dish 0 0 0 0 0 " + n + " 0;", 15);
            fault("dish 0 0 0 0 0 0 " + n + ";", 17);
        }
        fault("fog " + "1".repeat(296), 4);
        fault("fog " + "0".repeat(295) + ";", 4);
        good("fog 0;", 1);
        good("house 0 0 0 0 0;", 1);
    }

    private static void numbersWhereNoneCanStand() {
        for (String n : new String[] {"0", "5", "10", "99", "100", "00", "01"}) {
            fault(n, 0);
            fault(n + " fog 1;", 0);
            fault("fog 1 " + n + ";", 6);
            fault("fog 1;" + n, 6);
            fault("house 1 2 3 4 5 " + n + ";", 16);
            fault("dish 1 2 3 4 5 6 7 " + n + ";", 19);
        }
    }

    // "words of letters a .. z (house, dish, fog)"; "a word that is none of these"
    private static void wordsOfTheseLettersAlone() {
        String[] none = {"a", "z", "h", "d", "f", "ho", "fo", "di", "dis", "hous", "houses", "dishs", "fogf", "ffog", "hhouse",
            "ouse", "ish", "og", "gof", "hause", "housf", "dash", "disg", "fig", "gog", "foh", "item", "smoke", "word"};
        for (String word : none) {
            fault(word, 0);
            fault(word + " 1;", 0);
            fault(word + " 1 2 3 4 5;", 0);
            fault(word + " 1 2 3 4 5 6 7;", 0);
            fault("fog 1; " + word, 7);
            fault("fog " + word, 4);
            fault("fog 1 " + word, 6);
        }
        for (String word : new String[] {"House", "hOuse", "housE", "HOUSE", "Dish", "DISH", "Fog", "FOG"}) {
            fault(word + " 1 2 3 4 5;", 0);
            fault("fog 1;" + word, 6);
        }
        // Letters beside a word that aren't a .. z end it.
        fault("fogX 1;", 3);
        fault("dish{", 4);
        fault("dish`", 4);
        fault("fog\u00e9", 3);
    }

    // "FAULT: the place of the first byte of the first TOKEN that can't stand there"
    private static void theFirstFault() {
        fault("fog 6; x # 100", 4);
        fault("house 1 2 3 4 5; x fog 6;", 17);
        fault("house 1 10 10 1 1;", 8);
        fault("dish 1 1 1 1 1 8 8;", 15);
        fault("house 1 fog 10;", 8);
        fault("# fog 6;", 0);
        fault("fog 99 #", 4);
        fault("house dish", 6);
        fault("house house", 6);
        fault("house ;", 6);
        fault("fog fogs", 4);
    }

    // "the text's length, if it ends too early": behind each TOKEN, with and without blanks.
    private static void endsTooEarly() {
        for (String item : new String[] {"house 1 2 3 4 5", "dish 1 2 3 4 5 6 7", "fog 5"}) {
            for (int end = item.indexOf(' '); end <= item.length(); end++) {
                String text = item.substring(0, end);
                fault(text, end);
                fault(text + "    ", end + 4);
                fault("fog".equals(item.substring(0, 3)) ? HOUSE + text : "fog 0;" + text,
                    end + ("fog".equals(item.substring(0, 3)) ? HOUSE.length() : 6));
            }
            good(item + ";", 1);
        }
        // Letters of a word that was not ended are a word that is none of these.
        fault("fog 1;hous", 6);
        fault("fo", 0);
    }

    // Where a NUMBER is left out, the ; that can't stand there; where one is too much, that NUMBER.
    private static void eachTokenMissing() {
        for (int n = 0; n <= 6; n++) {
            String text = "house" + " 1".repeat(n);
            if (n < 5) fault(text + ";", text.length());
            if (n == 5) good(text + ";", 1);
            if (n > 5) fault(text + ";", text.length() - 1);
        }
        for (int n = 0; n <= 8; n++) {
            String text = "dish" + " 1".repeat(n);
            if (n < 7) fault(text + ";", text.length());
            if (n == 7) good(text + ";", 1);
            if (n > 7) fault(text + ";", text.length() - 1);
        }
        fault("fog;", 3);
        fault("fog ;", 4);
        fault("fog 1 1;", 6);
    }

    // "The lowest n (1 .. 8) bytes of v, the highest of them first, come to THE TEXT: how many it has."
    private static void lowestBytesOfType() {
        String text = "fog   4;";
        long v = 0;
        for (int i = 0; i < 8; i++) v = v << 8 | text.charAt(i);
        for (int n = 1; n <= 8; n++) {
            SmokeTalk x = new SmokeTalk();
            Checks.type(x, text.substring(0, 8 - n));
            Checks.due("the lowest " + n, x.type(v, n), 8);
            Checks.due("they end the text", x.valley(), 1);
            Checks.due("as told", x.count(3), 4);
            // What stands above them is left out.
            SmokeTalk y = new SmokeTalk();
            Checks.type(y, text.substring(0, 8 - n));
            y.type(n < 8 ? v | -1L << 8 * n : v, n);
            Checks.due("the bytes above the lowest " + n, y.valley(), 1);
        }
        SmokeTalk x = new SmokeTalk();
        Checks.due("of the least number", x.type(Long.MIN_VALUE, 8), 8);
        Checks.due("its highest byte is 128, first", x.valley(), -10);
        SmokeTalk y = new SmokeTalk();
        Checks.due("of the greatest number", y.type(Long.MAX_VALUE, 8), 8);
        Checks.due("its highest byte is 127", y.valley(), -10);
        SmokeTalk z = new SmokeTalk();
        z.type(0x666F6720354BL << 8 | 0x3B, 7);
        Checks.due("one behind another", z.valley(), -10 - 5);
    }

    // "FULL": 300 bytes are let in, not one more; what is refused is left out whole.
    private static void typeUntilFull() {
        for (int n = 1; n <= 8; n++) {
            SmokeTalk x = new SmokeTalk();
            Checks.type(x, " ".repeat(300 - n));
            for (int more = n + 1; more <= 8; more++) Checks.due("type " + more + " to " + (300 - n), x.type(0, more), -3);
            Checks.due("nothing came", x.count(4), 300 - n);
            Checks.due("type " + n + " to " + (300 - n), x.type(0x2020202020202020L, n), 300);
            Checks.due("type 1 to 300", x.type(0x20, 1), -3);
            Checks.due("blanks alone", x.valley(), 0);
        }
        SmokeTalk x = new SmokeTalk();
        for (int i = 1; i <= 300; i++) Checks.due("one by one", x.type(0x20, 1), i);
        Checks.due("one more", x.type(0x20, 1), -3);
        Checks.due("clear of a full one", x.clear(), 300);
        Checks.due("room again", x.type(0x2020202020202020L, 8), 8);
    }

    // "THE TEXT is empty: how many bytes it had."
    private static void clearEdges() {
        SmokeTalk x = new SmokeTalk();
        Checks.due("of none", x.clear(), 0);
        x.type(0, 1);
        Checks.due("of one", x.clear(), 1);
        Checks.due("and none", x.clear(), 0);
        Checks.type(x, "fog 9;");
        Checks.due("a FAULT stays", x.valley(), -14);
        Checks.due("until it is cleared", x.clear(), 6);
        Checks.due("the next text starts anew", Checks.tell(x, "fog 3;"), 1);
        Checks.due("as told", x.count(3), 3);
    }

    // "THE TEXT tells all, and is empty then"
    private static void emptyBehindATelling() {
        SmokeTalk x = Checks.told("house 1 1 1 1 1;dish 1 1 1 1 1 1 1;fog 5;");
        Checks.due("empty", x.count(4), 0);
        Checks.due("nothing to clear", x.clear(), 0);
        Checks.due("the next byte is the first", x.type(0x20, 1), 1);
        Checks.due("the next text tells all, not more", x.valley(), 0);
        Checks.due("no house is left", x.count(0), 0);
    }

    // "-10 less FAULT: nothing changes (THE TEXT, too, stays)"
    private static void aFaultKeepsTheText() {
        SmokeTalk x = new SmokeTalk();
        for (int at = 0; at < 20; at++) {
            x.clear();
            Checks.type(x, " ".repeat(at) + "#fog 1;");
            Checks.due("a FAULT at " + at, x.valley(), -10 - at);
            Checks.due("again", x.valley(), -10 - at);
            Checks.due("its bytes", x.count(4), at + 7);
        }
    }

    // "As told; no HOUSES, no DISHES."
    private static void aNewObject() {
        for (int i = 0; i < 3; i++) {
            SmokeTalk x = new SmokeTalk();
            for (int what = 0; what < 5; what++) Checks.due("new count " + what, x.count(what), 0);
            Checks.due("no house", x.house(0, 5), -1);
            Checks.due("no dish", x.dish(0, 7), -1);
            Checks.due("no plume", x.plume(0, 0), -1);
            Checks.due("the trace", x.trace(), 0);
            Checks.due("no image", x.back(0) + x.back(1), -4);
            Checks.due("an empty text", x.clear(), 0);
            Checks.due("the lot", x.lot(9), 1);
            x.fog(2);
            x.keep(0);
            Checks.type(x, "fog 1;");
        }
    }
}
