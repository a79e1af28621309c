import java.lang.reflect.Method;
import java.util.ArrayList;
import java.util.List;
import java.util.Random;

/** Long runs of drawn calls (the same ones every time), which the class and SlowMaps must answer alike. */
public final class ModelTest {
    // What each argument of a call is: c cell, w small number, s sort, k kind, m mender, y years,
    // p purse or cell, n count, i index, b bits, v any number.
    private static final String[] CALLS = {
        "draw cws", "draw cws", "draw cws", "draw cws", "draw cws", "cell cw", "cells w", "income n", "mender kc",
        "of mw", "of mw", "set mwp", "turn mk", "as mk", "cost mc", "mend mc", "mend mc", "years y", "now w",
        "on myw", "wrong y", "done ", "when c", "cheapest m", "best m", "two m", "left m", "kind my", "purse mn",
        "needed y", "way ccw", "feed vw", "wipe ", "map ", "sheet wbi", "write wiv", "write wis", "copy wiwii",
        "lays w", "book w", "read wm", "image ", "undo ", "tear ", "count w", "status w", "TEXT", "TEXT", "TWIST",
    };
    private static final String[] WORDS = {
        "mender", "digger", "clerk", "briber", "mover", "insurer", "at", "purse", "land", "map", "to", "income",
        "plain", "water", "wood", "village", "hill", "road", ";", ";", "0", "7", "47", "48", "20", "21", "9999",
        "10000", "123456789012", "007", "x", "", "Land", ",",
    };

    private final Random random;
    private final Due due;
    private final TrueMaps fast = new TrueMaps();
    private final SlowMaps slow = new SlowMaps();
    private final List<String> told = new ArrayList<>();
    private final int wildness;

    private ModelTest(long seed, Due due) {
        this.random = new Random(seed);
        this.due = due;
        this.wildness = random.nextInt(3) == 0 ? 5 : 60;
    }

    public static void main(String[] args) throws Exception {
        int runs = args.length > 0 ? Integer.parseInt(args[0]) : 150;
        long first = args.length > 1 ? Long.parseLong(args[1]) : 1;
        Due due = new Due("ModelTest");
        for (long seed = first; seed < first + runs && !due.anyWrong(); seed++) {
            ModelTest run = new ModelTest(seed, due);
            run.go();
            if (due.anyWrong()) {
                System.out.println("run " + seed + ": " + String.join(" ", run.told));
            }
        }
        due.end();
    }

    private void go() throws Exception {
        int opening = random.nextInt(40);
        for (int i = 0; i < opening; i++) {
            call(random.nextInt(6) == 0 ? "mender kc" : "draw cws");
        }
        while (told.size() < 480 && !due.anyWrong()) {
            String call = CALLS[random.nextInt(CALLS.length)];
            if (call.equals("TEXT")) {
                text();
            } else if (call.equals("TWIST")) {
                book();
            } else {
                call(call);
            }
        }
    }

    private void call(String form) throws Exception {
        int blank = form.indexOf(' ');
        String kinds = form.substring(blank + 1);
        long[] arguments = new long[kinds.length()];
        for (int i = 0; i < arguments.length; i++) {
            arguments[i] = argument(kinds.charAt(i));
        }
        ask(form.substring(0, blank), arguments);
    }

    private void ask(String name, long... arguments) throws Exception {
        Object[] boxed = new Object[arguments.length];
        StringBuilder call = new StringBuilder(name).append('(');
        for (int i = 0; i < arguments.length; i++) {
            boxed[i] = name.equals("write") && i == 2 ? (Object) arguments[i] : (Object) (int) arguments[i];
            call.append(i > 0 ? ", " : "").append(arguments[i]);
        }
        told.add(call.append(')').toString());
        due.same(call.toString(), ((Number) method(name).invoke(fast, boxed)).longValue(), slow.answer(name, arguments));
    }

    private static Method method(String name) {
        for (Method m : TrueMaps.class.getDeclaredMethods()) {
            if (m.getName().equals(name)) {
                return m;
            }
        }
        throw new IllegalStateException(name);
    }

    private long argument(char kind) {
        if (random.nextInt(wildness) == 0) {
            int[] wild = {-1, -2, 6, 7, 41, 48, 49, 60, 61, 255, 9999, 10000, Integer.MIN_VALUE, Integer.MAX_VALUE};
            return wild[random.nextInt(wild.length)];
        }
        switch (kind) {
            case 'c': return random.nextInt(48);
            case 'w': return random.nextInt(random.nextInt(4) == 0 ? 7 : 3);
            case 's': return random.nextInt(6);
            case 'k': return random.nextInt(6);
            case 'm': return random.nextInt(random.nextInt(3) == 0 ? 6 : 2);
            case 'y': return random.nextInt(random.nextBoolean() ? 61 : 8);
            case 'p': return random.nextInt(random.nextInt(3) == 0 ? 10000 : 48);
            case 'n': return random.nextInt(21);
            case 'i': return random.nextInt(random.nextInt(3) == 0 ? 41 : 6);
            case 'b': return new int[] {0, 8, 16, 64, 8, 16, 64, 32}[random.nextInt(8)];
            default: return random.nextBoolean() ? random.nextInt(6) : random.nextLong();
        }
    }

    /** Feeds a text that is right at first, sometimes with a word of it changed, and reads it. */
    private void text() throws Exception {
        List<String> words = new ArrayList<>();
        int items = 1 + random.nextInt(5);
        for (int i = 0; i < items; i++) {
            if (i > 0) {
                words.add(";");
            }
            item(words);
        }
        if (random.nextInt(3) == 0) {
            int at = random.nextInt(words.size() + 1);
            String word = WORDS[random.nextInt(WORDS.length)];
            if (at == words.size() || random.nextBoolean()) {
                words.add(at, word);
            } else {
                words.set(at, word);
            }
        }
        String text = String.join(random.nextInt(6) == 0 ? "" : " ", words);
        if (random.nextInt(8) == 0) {
            text = text.substring(0, random.nextInt(text.length() + 1));
        }
        ask("wipe");
        feed(text);
        ask("map");
    }

    private void item(List<String> words) {
        int kind = random.nextInt(8);
        if (kind == 0) {
            words.addAll(List.of("income", "" + random.nextInt(21)));
        } else if (kind == 1) {
            words.addAll(List.of(WORDS[random.nextInt(6)], "at", "" + random.nextInt(48)));
            if (random.nextBoolean()) {
                words.addAll(List.of("purse", "" + random.nextInt(300)));
            }
        } else {
            int from = random.nextInt(48);
            words.addAll(List.of(kind < 5 ? "land" : "map", "" + from, WORDS[12 + random.nextInt(6)]));
            if (random.nextBoolean()) {
                words.addAll(List.of("to", "" + (from + random.nextInt(Math.min(12, 48 - from)))));
            }
        }
    }

    private void feed(String text) throws Exception {
        for (int i = 0; i < text.length() && i < 120; i += 4) {
            int bytes = 0;
            int n = Math.min(4, text.length() - i);
            for (int k = 0; k < n; k++) {
                bytes = bytes << 8 | text.charAt(i + k);
            }
            ask("feed", bytes, n);
        }
    }

    /** Has a book written, sometimes falsified, and read again. */
    private void book() throws Exception {
        int s = random.nextInt(4);
        int size = random.nextInt(12);
        ask("sheet", s, 16, size);
        ask("book", s);
        ask("read", s, random.nextInt(3));
        if (random.nextInt(3) == 0 && size > 0) {
            ask("write", s, size - 1, random.nextInt(10));
            ask("read", s, random.nextInt(3));
        }
    }
}
