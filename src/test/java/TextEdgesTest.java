import java.util.List;
import java.util.function.Predicate;

/** Boundaries of the tape and of the text of a map: bytes, tokens, numbers, faults (promises 27 to 29). */
public final class TextEdgesTest {
    private static final Edges edges = new Edges("TextEdgesTest");
    private static final Story fresh = new Story();
    /** Something of everything, but an empty tape. */
    private static final Story rich = Edges.RICH.then("wipe()");
    private static final List<String> KINDS = List.of("mender", "digger", "clerk", "briber", "mover", "insurer");
    private static final List<String> SORTS = List.of("plain", "water", "wood", "village", "hill", "road");
    private static final String[] TOKENS = {
        "mender", "digger", "clerk", "briber", "mover", "insurer", "plain", "water", "wood", "village", "hill", "road",
        "land", "map", "income", "at", "purse", "to", "x", "menders", "mende", "lands", "Land",
        "xender", "xand", "xap", "xncome", "xt", "xurse", "xo", "xoad",
        "0", "00", "6", "7", "8", "20", "21", "47", "48", "050", "9998", "9999", "10000", "09999", "99999",
        "4294967303", "18446744073709551623", ";", ",", "-", "!",
    };

    private TextEdgesTest() {
    }

    public static void main(String[] args) {
        feedIsHeld();
        feedTakesTheLowest();
        tapeIsHeldTo120();
        beyondAheadOfFull();
        nothingOfAFullFeedComes();
        wipeEmptyAndFull();
        mapOfNothing();
        tokensAtEachPlace();
        endsTooEarly();
        endsInBlanks();
        eachByte();
        eachTokenAsLongAsCanBe();
        cellsOfText();
        pursesOfText();
        incomesOfText();
        toNotLess();
        aSeventh();
        aSeventhBehindAFault();
        textsOf120();
        manyItems();
        itemsComeInOrder();
        edges.end();
    }

    // "n 1 to 4", "BEYOND: n."
    private static void feedIsHeld() {
        edges.range(fresh, "feed(0, #)", 1, 4);
        edges.range(Edges.RICH, "feed(-1, #)", 1, 4);
        for (int n = 1; n <= 4; n++) {
            edges.answers(fresh, "feed(0, " + n + ")", n);
            edges.answers(fresh.then("feed(0, 4)"), "feed(0, " + n + ")", 4 + n);
        }
        edges.allowed(fresh, "feed(-2147483648, 4)");
        edges.allowed(fresh, "feed(2147483647, 4)");
    }

    // "the n lowest bytes of a number behind it, the highest of these first".
    private static void feedTakesTheLowest() {
        int income = 'i' << 24 | 'n' << 16 | 'c' << 8 | 'o';
        int me = 'X' << 24 | 'm' << 16 | 'e' << 8 | ' ';
        Story three = fresh.then("feed(" + income + ", 4)", "feed(" + me + ", 3)");
        edges.answers(three.then("feed(" + ('9' << 24 | '9' << 16 | '1' << 8 | '7') + ", 2)"), "map()", 1);
        edges.answers(three.then("feed(" + ('9' << 24 | '9' << 16 | '1' << 8 | '7') + ", 2)", "map()"), "now(4)", 17);
        edges.answers(three.then("feed(" + ('9' << 8 | '5') + ", 1)", "map()"), "now(4)", 5);
        // Bytes 128 to 255 are not below 0, and letters no more for their highest bit.
        int high = 'i' + 128;
        edges.answers(fresh.then("feed(" + high + ", 1)"), "map()", -1);
        edges.answers(fresh.then("feed(-1, 4)"), "map()", -1);
    }

    // "THE TAPE (bytes, at most 120)", "FULL."
    private static void tapeIsHeldTo120() {
        Story at116 = fresh.thenTimes(29, "feed(538976288, 4)");
        for (int n = 1; n <= 4; n++) {
            Story room = at116;
            for (int i = n; i < 4; i++) {
                room = room.then("feed(32, 1)");
            }
            edges.answers(room, "feed(32, " + n + ")", 120);
            Story lessRoom = room.then("feed(32, 1)");
            edges.refused(lessRoom, "feed(32, " + n + ")", Edges.FULL);
            edges.answers(lessRoom, "count(1)", 121 - n);
        }
        Story full = at116.then("feed(32, 4)");
        edges.answers(full, "count(1)", 120);
        edges.answers(full.then("map()"), "feed(32, 4)", 4);
        edges.answers(full.then("wipe()"), "feed(32, 4)", 4);
    }

    private static void beyondAheadOfFull() {
        edges.beyond(fresh.thenTimes(30, "feed(538976288, 4)"), "feed(32, #)", 1, 4);
    }

    private static void nothingOfAFullFeedComes() {
        Story at119 = fresh.fed(" ".repeat(111) + "income 1");
        edges.refused(at119, "feed(" + ('2' << 8 | '3') + ", 2)", Edges.FULL);
        Story later = at119.then("feed(" + ('2' << 8 | '3') + ", 2)", "feed(" + (int) '5' + ", 1)", "map()");
        edges.answers(later, "now(4)", 15);
    }

    // "THE TAPE is empty: how many it had."
    private static void wipeEmptyAndFull() {
        edges.asks(fresh, "wipe()", 0);
        edges.answers(fresh.then("feed(32, 1)"), "wipe()", 1);
        edges.answers(fresh.thenTimes(30, "feed(0, 4)"), "wipe()", 120);
        edges.answers(fresh.thenTimes(30, "feed(0, 4)").then("wipe()"), "wipe()", 0);
        edges.answers(Edges.RICH, "wipe()", 9);
        edges.answers(rich.fed("income 4").then("map()"), "now(4)", 4);
        edges.holds("wipe() changes the tape alone", rich.present().subList(0, rich.present().size() - 1)
            .equals(Edges.RICH.present().subList(0, Edges.RICH.present().size() - 1)));
    }

    /** The text has a fault: nothing changes but that the tape is empty, and it is no finding. */
    private static void fault(Story before, String text, int place) {
        Story after = before.fed(text).then("map()");
        edges.same("fault in '" + text + "'", after.answer(), -1 - place);
        edges.holds("'" + text + "' changes nothing" + Edges.firstUnlike(before.known(), after.known()),
            after.known().equals(before.known()));
        edges.holds("'" + text + "' is no finding", after.findings().equals(before.findings()));
    }

    private static void items(Story before, String text, int items) {
        Story after = before.fed(text).then("map()");
        edges.same("items in '" + text + "'", after.answer(), items);
        edges.same("tape after '" + text + "'", after.asked("count(1)"), 0);
        edges.holds("'" + text + "' is no finding", after.findings().equals(before.findings()));
    }

    private static void mapOfNothing() {
        fault(fresh, "", 0);
        fault(rich, "", 0);
        fault(rich, " ", 1);
        fault(rich, "   ", 3);
        fault(rich, ";", 0);
        fault(rich, " ;", 1);
    }

    private static Predicate<String> any(List<String> words) {
        return words::contains;
    }

    private static Predicate<String> number(int least, int most) {
        return t -> t.matches("0*[0-9]{1,4}") && Integer.parseInt(t) >= least && Integer.parseInt(t) <= most;
    }

    private static final Predicate<String> FIRST =
        t -> KINDS.contains(t) || List.of("land", "map", "income").contains(t);
    private static final Predicate<String> SIGN = ";"::equals;

    /** Behind a beginning, each token that may not stand there is the fault; the others are none. */
    private static void tokens(String beginning, Predicate<String> may, Predicate<String> ends) {
        for (String token : TOKENS) {
            String text = beginning.isEmpty() ? token : beginning + " " + token;
            if (!may.test(token)) {
                fault(rich, text, text.length() - token.length());
            } else if (ends.test(token)) {
                items(rich, text, text.split(";").length);
            } else {
                fault(rich, text, text.length());
            }
        }
    }

    // "the first byte of the first TOKEN that can't stand there".
    private static void tokensAtEachPlace() {
        Predicate<String> none = t -> false;
        Predicate<String> all = t -> true;
        for (String ahead : new String[] {"", "income 3;", "land 3 hill ; clerk at 3;"}) {
            tokens(ahead, FIRST, none);
            for (String kind : KINDS) {
                tokens(ahead + kind, "at"::equals, none);
                tokens(ahead + kind + " at", number(0, 47), all);
            }
            tokens(ahead + "mender at 4", SIGN.or("purse"::equals), none);
            tokens(ahead + "mender at 4 purse", number(0, 9999), all);
            tokens(ahead + "mender at 4 purse 9", SIGN, none);
            for (String layer : new String[] {"land", "map"}) {
                tokens(ahead + layer, number(0, 47), none);
                tokens(ahead + layer + " 7", any(SORTS), all);
                tokens(ahead + layer + " 7 road", SIGN.or("to"::equals), none);
                tokens(ahead + layer + " 7 road to", number(7, 47), all);
                tokens(ahead + layer + " 7 road to 9", SIGN, none);
            }
            tokens(ahead + "income", number(0, 20), all);
            tokens(ahead + "income 4", SIGN, none);
        }
    }

    // "or how many bytes there are if it ends too early".
    private static void endsTooEarly() {
        String[] wholes = {
            "insurer at 47 purse 9999", "land 0 village to 47", "map 47 plain to 47", "income 20",
            "clerk at 0 ; map 3 hill ; income 0",
        };
        for (String whole : wholes) {
            String[] words = whole.split(" ");
            StringBuilder text = new StringBuilder();
            for (int i = 0; i < words.length; i++) {
                text.append(i > 0 ? " " : "").append(words[i]);
                String last = words[i];
                boolean isWhole = SORTS.contains(last) || last.matches("[0-9]+") && !words[i - 1].matches("land|map");
                if (!isWhole) {
                    fault(rich, text.toString(), text.length());
                    fault(rich, text + "  ", text.length() + 2);
                } else {
                    items(rich, text.toString(), text.toString().split(";").length);
                    items(rich, text + "  ", text.toString().split(";").length);
                }
            }
        }
        // A word that is cut is another word.
        fault(rich, "incom", 0);
        fault(rich, "land 4 wate", 7);
        fault(rich, "land 4 water t", 13);
        fault(rich, "mender at 4 purs", 12);
    }

    private static void endsInBlanks() {
        items(rich, "income 3" + " ".repeat(112), 1);
        items(rich, " ".repeat(112) + "income 3", 1);
        fault(rich, "income 3;" + " ".repeat(111), 120);
        fault(rich, " ".repeat(120), 120);
        fault(rich, " ".repeat(114) + "income", 120);
    }

    // "WORDS (letters a to z), NUMBERS (digits ..), SIGN ; ; blanks may stand between".
    private static void eachByte() {
        for (int b = 0; b < 256; b++) {
            char c = (char) b;
            boolean letter = b >= 97 && b <= 122;
            boolean digit = b >= 48 && b <= 57;
            if (b == 32) {
                items(rich, "income 3" + c, 1);
                items(rich, c + "income 3", 1);
                items(rich, "income" + c + "3", 1);
                items(rich, "income 3;" + c + "income 4", 2);
            } else {
                fault(rich, c + "income 3", 0);
                fault(rich, "income 3" + c, b == 59 ? 9 : digit ? 7 : 8);
                if (letter) {
                    fault(rich, "income" + c + "3", 0);
                } else if (b == 48 || b == 49) {
                    items(rich, "income" + c + "3", 1);
                } else {
                    fault(rich, "income" + c + "3", 6);
                }
                fault(rich, "income 3;" + c + "income 4", 9);
            }
        }
    }

    // "TOKENS, each as long as can be".
    private static void eachTokenAsLongAsCanBe() {
        items(rich, "mender at1purse2;land3hill to4;income5", 3);
        fault(rich, "menderat 1", 0);
        fault(rich, "mender at 1 2", 12);
        fault(rich, "mender at 12purse3to4", 18);
        fault(rich, "land 4 hillto 5", 7);
        fault(rich, "land 4 hill to 4 8", 17);
        fault(rich, "income 2 0", 9);
        items(rich, "income 2;income 0", 2);
        fault(rich, "incomeincome 3", 0);
        fault(rich, "income 3 ;; income 4", 10);
    }

    private static void cellsOfText() {
        items(rich, "mender at 0", 1);
        items(rich, "mender at 47", 1);
        fault(rich, "mender at 48", 10);
        edges.answers(fresh.fed("mender at 47").then("map()"), "of(0, 1)", 47);
        edges.answers(fresh.fed("mender at 0").then("map()"), "of(0, 1)", 0);
        for (String layer : new String[] {"land", "map"}) {
            items(rich, layer + " 0 hill", 1);
            items(rich, layer + " 47 hill", 1);
            items(rich, layer + " 0 hill to 47", 1);
            items(rich, layer + " 47 hill to 47", 1);
            fault(rich, layer + " 48 hill", layer.length() + 1);
            fault(rich, layer + " 0 hill to 48", layer.length() + 11);
        }
        edges.answers(fresh.fed("land 0 hill").then("map()"), "cells(5)", 1);
        edges.answers(fresh.fed("land 47 hill").then("map()"), "cells(5)", 1L << 47);
        edges.answers(fresh.fed("land 0 hill to 47").then("map()"), "cells(5)", Edges.ALL_CELLS);
        edges.answers(fresh.fed("map 0 hill to 47").then("map()"), "count(3)", 48);
        edges.answers(fresh.fed("land 46 hill to 47").then("map()"), "cells(5)", 3L << 46);
    }

    // "purse and a NUMBER (0 to 9999)", "NUMBERS (digits, 9999 at most)".
    private static void pursesOfText() {
        String[] numbers = {"0", "9999", "09999", "000000000009999", "0000"};
        for (String number : numbers) {
            items(rich, "clerk at 3 purse " + number, 1);
            edges.answers(fresh.fed("clerk at 3 purse " + number).then("map()"), "of(0, 2)", Integer.parseInt(number));
        }
        edges.answers(fresh.fed("clerk at 3").then("map()"), "of(0, 2)", 50);
        edges.answers(fresh.fed("clerk at 3 purse 9").then("map()"), "of(0, 3)", 0);
        String[] tooMuch = {
            "10000", "010000", "99990", "65536", "2147483648", "4294967296", "4294967297", "9223372036854775808",
            "18446744073709551616", "18446744073709551617", "9".repeat(60), "1" + "0".repeat(60),
        };
        for (String number : tooMuch) {
            fault(rich, "clerk at 3 purse " + number, 17);
            fault(rich, "clerk at " + number, 9);
            fault(rich, "income " + number, 7);
            fault(rich, "land " + number + " hill", 5);
            fault(rich, "land 0 hill to " + number, 15);
        }
    }

    // "income and a NUMBER (0 to 20)".
    private static void incomesOfText() {
        items(rich, "income 0", 1);
        items(rich, "income 20", 1);
        fault(rich, "income 21", 7);
        edges.answers(fresh.fed("income 20").then("map()"), "now(4)", 20);
        edges.answers(fresh.fed("income 0").then("map()"), "now(4)", 0);
    }

    // "perhaps to and a NUMBER (a CELL, not less)".
    private static void toNotLess() {
        items(rich, "land 5 hill to 5", 1);
        items(rich, "land 5 hill to 6", 1);
        fault(rich, "land 5 hill to 4", 15);
        fault(rich, "land 47 hill to 46", 16);
        fault(rich, "land 1 hill to 0", 15);
        items(rich, "land 0 hill to 0", 1);
        edges.answers(fresh.fed("land 5 hill to 5").then("map()"), "cells(5)", 1L << 5);
        edges.answers(fresh.fed("land 5 hill to 6").then("map()"), "cells(5)", 3L << 5);
        edges.answers(fresh.fed("land 5 hill").then("map()"), "cells(5)", 1L << 5);
        edges.answers(fresh.fed("map 7 road to 8").then("map()"), "cells(0)", 3L << 7);
    }

    // "the name of a KIND for a 7th: its own".
    private static void aSeventh() {
        Story before = fresh;
        for (int there = 0; there <= 6; there++) {
            StringBuilder text = new StringBuilder();
            for (int i = there; i < 6; i++) {
                text.append(text.length() > 0 ? ";" : "").append("mover at ").append(i);
            }
            if (there < 6) {
                items(before, text.toString(), 6 - there);
                text.append(';');
            }
            for (String kind : KINDS) {
                fault(before, text + kind + " at 0", text.length());
                fault(before, text + kind, text.length());
                fault(before, text + kind + " at 48", text.length());
                fault(before, text + " " + kind + " at 0", text.length() + 1);
            }
            items(before, text + "income 3", 7 - there);
            fault(before, text + "mende at 0", text.length());
            before = before.then("mender(0, 0)");
        }
    }

    private static void aSeventhBehindAFault() {
        Story six = fresh.thenTimes(6, "mender(0, 0)");
        fault(six, "income 21; mender at 3", 7);
        fault(six, "income 20; mender at 3", 11);
        fault(six, "income 20; land 3 mender", 18);
    }

    private static void textsOf120() {
        String full = "insurer at 47 purse 9999;land 0 village to 47;map 10 water to 46;income 20;briber at 5 purse 1234;"
            + "land 46 plain to 47;";
        edges.same("bytes", full.length(), 118);
        fault(fresh, full, 118);
        fault(fresh, full + "  ", 120);
        fault(fresh, full + " x", 119);
        items(fresh, full.substring(0, 117), 6);
        items(fresh, full.substring(0, 117) + "   ", 6);
        fault(fresh, full.substring(0, 117) + " 47", 118);
        Story all = fresh.fed(full.substring(0, 117)).then("map()");
        edges.answers(all, "of(1, 2)", 1234);
        edges.answers(all, "cells(4)", Edges.ALL_CELLS >> 2);
        edges.answers(all, "count(3)", 37);
    }

    private static void manyItems() {
        StringBuilder text = new StringBuilder("income0");
        for (int i = 1; i < 15; i++) {
            text.append(";income").append(i % 10);
        }
        edges.same("bytes", text.length(), 119);
        items(fresh, text.toString(), 15);
        items(fresh, text + " ", 15);
        edges.answers(fresh.fed(text.toString()).then("map()"), "now(4)", 4);
        fault(fresh, text + ";", 120);
        fault(fresh, text + "x", 119);
        fault(fresh, text + "9", 118);
    }

    private static void itemsComeInOrder() {
        Story story = rich.fed("land 0 road to 9;land 5 hill to 6;map 5 wood;digger at 9;clerk at 8 purse 7").then("map()");
        edges.answers(story, "cells(6)", rich.asked("cells(6)") & ~0x3FFL | 0x39FL);
        edges.answers(story, "cell(5, 0)", 4);
        edges.answers(story, "cell(5, 1)", 2);
        edges.answers(story, "cell(6, 0)", 4);
        edges.answers(story, "of(3, 0)", 1);
        edges.answers(story, "of(4, 0)", 2);
        edges.answers(story, "of(4, 2)", 7);
        edges.answers(story, "count(0)", 5);
        edges.answers(story, "now(0)", 2);
    }
}
