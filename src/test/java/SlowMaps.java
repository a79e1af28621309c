import java.util.ArrayDeque;
import java.util.ArrayList;
import java.util.List;
import java.util.function.IntUnaryOperator;
import java.util.regex.Matcher;
import java.util.regex.Pattern;

/**
 * The document told a second time, as slowly and as near to its words as can be: cells one by one,
 * copies of everything, findings thrown. The methods bear the names of the class that it is held against.
 */
public final class SlowMaps {
    private static final List<String> NAMES =
        List.of("BEYOND", "FULL", "KIND", "NONE", "STATE", "MISSING", "SIZE");
    private static final List<String> KINDS =
        List.of("mender", "digger", "clerk", "briber", "mover", "insurer");
    private static final List<String> SORTS =
        List.of("plain", "water", "wood", "village", "hill", "road");
    private static final int[] ABOVE = {-1, 0, 0, 0, 1, 2};

    private Place place = new Place();
    private Place kept = null;
    private String tape = "";
    private final long[][] rows = new long[4][];
    private final int[] bits = new int[4];
    private final int[] told = new int[7];

    private static final class Finding extends RuntimeException {
        private static final long serialVersionUID = 1L;
        final int number;

        Finding(String name) {
            super(name, null, false, false);
            number = NAMES.indexOf(name);
        }
    }

    private static final class Man {
        int kind;
        int at;
        int purse = 50;
        int paid = 0;
        boolean idle = false;

        Man(int kind, int at) {
            this.kind = kind;
            this.at = at;
        }
    }

    private static final class Place {
        int[] land = new int[48];
        int[] map = new int[48];
        int year = 0;
        int income = 2;
        List<Man> men = new ArrayList<>();

        Place again() {
            Place p = new Place();
            p.land = land.clone();
            p.map = map.clone();
            p.year = year;
            p.income = income;
            for (Man m : men) {
                Man n = new Man(m.kind, m.at);
                n.purse = m.purse;
                n.paid = m.paid;
                n.idle = m.idle;
                p.men.add(n);
            }
            return p;
        }

        boolean bad(int c) {
            return land[c] != map[c];
        }

        int bads() {
            int n = 0;
            for (int c = 0; c < 48; c++) {
                n += bad(c) ? 1 : 0;
            }
            return n;
        }

        int badsBeside(int c) {
            int n = 0;
            for (int d = 0; d < 48; d++) {
                n += apart(c, d) == 1 && bad(d) ? 1 : 0;
            }
            return n;
        }

        int price(Man man, int kind, int c) {
            int l = land[c];
            int m = map[c];
            int w = badsBeside(c);
            int p;
            switch (kind) {
                case 0:
                    return 3 * Math.abs(l - m) + 2;
                case 1:
                    p = price(man, 0, c);
                    return l == 1 || m == 1 ? p / 2 : p;
                case 2:
                    return price(man, 0, c) + w;
                case 3:
                    return (4 + w) * 2;
                case 4:
                    p = price(man, 1, c);
                    if (l == 3 || m == 3) {
                        p -= 5;
                    }
                    return p < 1 ? 1 : p;
                default:
                    p = price(man, 2, c) - man.purse / 10;
                    return p < 1 ? 1 : p;
            }
        }

        int price(Man man, int c) {
            return price(man, man.kind, c);
        }

        int goal(Man man) {
            if (man.kind == 5) {
                return least(c -> bad(c) ? -price(man, c) : Integer.MAX_VALUE);
            }
            return least(c -> bad(c) ? apart(c, man.at) : Integer.MAX_VALUE);
        }

        void repair(Man man, int c) {
            man.at = c;
            if (man.kind == 3) {
                map[c] = land[c];
                return;
            }
            land[c] = map[c];
            for (int d = 0; d < 48; d++) {
                if (apart(c, d) == 1) {
                    if (land[c] == 1 && land[d] == 5) {
                        land[d] = 0;
                    } else if (land[c] == 3 && land[d] == 0) {
                        land[d] = 5;
                    }
                }
            }
        }

        void pay(Man man, int c) {
            int p = price(man, c);
            man.purse -= p;
            man.paid = Math.min(man.paid + p, 99999);
            repair(man, c);
        }

        void year() {
            for (Man man : men) {
                if (bads() != 0 && !man.idle) {
                    int c = goal(man);
                    if (man.purse >= price(man, c)) {
                        pay(man, c);
                    }
                    man.purse = Math.min(man.purse + income, 9999);
                }
            }
            year++;
        }

        Place on(int n) {
            Place p = again();
            for (int i = 0; i < n; i++) {
                p.year();
            }
            return p;
        }
    }

    private static int apart(int c, int d) {
        return Math.abs(c / 8 - d / 8) + Math.abs(c % 8 - d % 8);
    }

    /** The least cell for which a measure is least; -1 if it is the greatest int for all. */
    private static int least(IntUnaryOperator measure) {
        int found = -1;
        int value = Integer.MAX_VALUE;
        for (int c = 0; c < 48; c++) {
            int v = measure.applyAsInt(c);
            if (v < value) {
                value = v;
                found = c;
            }
        }
        return found;
    }

    private static void ask(boolean so, String name) {
        if (!so) {
            throw new Finding(name);
        }
    }

    private static void in(int v, int least, int most) {
        ask(v >= least && v <= most, "BEYOND");
    }

    private Man man(int m) {
        in(m, 0, place.men.size() - 1);
        return place.men.get(m);
    }

    private void page(int s) {
        in(s, 0, 3);
        ask(rows[s] != null, "MISSING");
    }

    /** Answers a call by its name; findings are told by number and counted. */
    public long answer(String name, long[] a) {
        try {
            return act(name, a);
        } catch (Finding f) {
            told[f.number]++;
            return -1000000001L - f.number;
        }
    }

    private long act(String name, long[] a) {
        int[] i = new int[5];
        for (int k = 0; k < a.length; k++) {
            i[k] = (int) a[k];
        }
        switch (name) {
            case "draw": return draw(i[0], i[1], i[2]);
            case "cell": return cell(i[0], i[1]);
            case "cells": return cells(i[0]);
            case "income": return income(i[0]);
            case "mender": return mender(i[0], i[1]);
            case "of": return of(i[0], i[1]);
            case "set": return set(i[0], i[1], i[2]);
            case "turn": return turn(i[0], i[1]);
            case "as": return as(i[0], i[1]);
            case "cost": return cost(i[0], i[1]);
            case "mend": return mend(i[0], i[1]);
            case "years": return years(i[0]);
            case "now": return now(i[0]);
            case "on": return on(i[0], i[1], i[2]);
            case "wrong": return wrong(i[0]);
            case "done": return done();
            case "when": return when(i[0]);
            case "cheapest": return cheapest(i[0]);
            case "best": return best(i[0]);
            case "two": return pair(i[0])[0];
            case "left": return pair(i[0])[1];
            case "kind": return kind(i[0], i[1]);
            case "purse": return purse(i[0], i[1]);
            case "needed": return needed(i[0]);
            case "way": return way(i[0], i[1], i[2]);
            case "feed": return feed(i[0], i[1]);
            case "wipe": return wipe();
            case "map": return map();
            case "sheet": return sheet(i[0], i[1], i[2]);
            case "write": return write(i[0], i[1], a[2]);
            case "copy": return copy(i[0], i[1], i[2], i[3], i[4]);
            case "lays": return lays(i[0]);
            case "book": return book(i[0]);
            case "read": return read(i[0], i[1]);
            case "image": return image();
            case "undo": return undo();
            case "tear": return tear();
            case "count": return count(i[0]);
            case "status": return status(i[0]);
            default: throw new IllegalStateException(name);
        }
    }

    private int draw(int c, int what, int sort) {
        in(c, 0, 47);
        in(what, 0, 1);
        in(sort, 0, 5);
        int[] row = what == 0 ? place.land : place.map;
        int was = row[c];
        row[c] = sort;
        return was;
    }

    private int cell(int c, int what) {
        in(c, 0, 47);
        in(what, 0, 4);
        int set = 0;
        for (int m = 0; m < place.men.size(); m++) {
            set += place.men.get(m).at == c ? 1 << m : 0;
        }
        return new int[] {place.land[c], place.map[c], place.bad(c) ? 1 : 0, place.badsBeside(c), set}[what];
    }

    private long cells(int what) {
        in(what, 0, 6);
        long set = 0;
        for (int c = 0; c < 48; c++) {
            if (what == 0 ? place.bad(c) : place.land[c] == what - 1) {
                set += 1L << c;
            }
        }
        return set;
    }

    private int income(int v) {
        in(v, 0, 20);
        int was = place.income;
        place.income = v;
        return was;
    }

    private int mender(int kind, int c) {
        in(kind, 0, 5);
        in(c, 0, 47);
        ask(place.men.size() < 6, "FULL");
        place.men.add(new Man(kind, c));
        return place.men.size() - 1;
    }

    private int of(int m, int what) {
        Man man = man(m);
        in(what, 0, 5);
        int goal = place.goal(man);
        int price = goal < 0 ? 0 : place.price(man, goal);
        return new int[] {man.kind, man.at, man.purse, man.paid, goal, price}[what];
    }

    private int set(int m, int what, int v) {
        Man man = man(m);
        in(what, 1, 2);
        in(v, 0, what == 1 ? 47 : 9999);
        int was = what == 1 ? man.at : man.purse;
        if (what == 1) {
            man.at = v;
        } else {
            man.purse = v;
        }
        return was;
    }

    private int turn(int m, int kind) {
        Man man = man(m);
        in(kind, 0, 5);
        int was = man.kind;
        man.kind = kind;
        return was;
    }

    private int as(int m, int kind) {
        Man man = man(m);
        in(kind, 0, 5);
        for (int k = man.kind; k >= 0; k = ABOVE[k]) {
            if (k == kind) {
                return man.purse;
            }
        }
        throw new Finding("KIND");
    }

    private int cost(int m, int c) {
        Man man = man(m);
        in(c, 0, 47);
        ask(place.bad(c), "STATE");
        return place.price(man, c);
    }

    private int mend(int m, int c) {
        int price = cost(m, c);
        ask(man(m).purse >= price, "STATE");
        place.pay(man(m), c);
        return place.bads();
    }

    private int years(int n) {
        in(n, 1, 60);
        ask(place.year + n <= 9999, "STATE");
        place = place.on(n);
        return place.bads();
    }

    private int now(int what) {
        in(what, 0, 4);
        int purses = 0;
        int paid = 0;
        for (Man man : place.men) {
            purses += man.purse;
            paid += man.paid;
        }
        return new int[] {place.year, place.bads(), purses, paid, place.income}[what];
    }

    private int on(int m, int n, int what) {
        man(m);
        in(n, 0, 60);
        in(what, 0, 2);
        Man man = place.on(n).men.get(m);
        return new int[] {man.at, man.purse, man.paid}[what];
    }

    private int wrong(int n) {
        in(n, 0, 60);
        return place.on(n).bads();
    }

    private int done() {
        for (int n = 0; n <= 60; n++) {
            if (place.on(n).bads() == 0) {
                return n;
            }
        }
        throw new Finding("NONE");
    }

    private int when(int c) {
        in(c, 0, 47);
        for (int n = 0; n <= 60; n++) {
            if (!place.on(n).bad(c)) {
                return n;
            }
        }
        throw new Finding("NONE");
    }

    private int cheapest(int m) {
        Man man = man(m);
        int c = least(d -> place.bad(d) ? place.price(man, d) : Integer.MAX_VALUE);
        ask(c >= 0, "NONE");
        return c;
    }

    private static Place repaired(Place from, int m, int c) {
        Place p = from.again();
        p.repair(p.men.get(m), c);
        return p;
    }

    private int best(int m) {
        man(m);
        int c = least(d -> place.bad(d) ? repaired(place, m, d).bads() : Integer.MAX_VALUE);
        ask(c >= 0, "NONE");
        return c;
    }

    private int[] pair(int m) {
        man(m);
        int[] found = null;
        for (int c = 0; c < 48; c++) {
            if (place.bad(c)) {
                Place once = repaired(place, m, c);
                for (int d = 0; d < 48; d++) {
                    if (once.bad(d)) {
                        int n = repaired(once, m, d).bads();
                        if (found == null || n < found[1]) {
                            found = new int[] {100 * c + d, n};
                        }
                    }
                }
            }
        }
        ask(found != null, "NONE");
        return found;
    }

    private int kind(int m, int n) {
        man(m);
        in(n, 0, 60);
        return least(k -> {
            if (k > 5) {
                return Integer.MAX_VALUE;
            }
            Place p = place.again();
            p.men.get(m).kind = k;
            return p.on(n).bads();
        });
    }

    private int withPurse(int m, int purse, int n) {
        Place p = place.again();
        p.men.get(m).purse = purse;
        return p.on(n).bads();
    }

    private int purse(int m, int n) {
        man(m);
        in(n, 0, 20);
        int purse = 0;
        while (withPurse(m, purse, n) > withPurse(m, 255, n)) {
            purse++;
        }
        return purse;
    }

    private int needed(int n) {
        in(n, 0, 60);
        ask(!place.men.isEmpty(), "NONE");
        return least(m -> {
            if (m >= place.men.size()) {
                return Integer.MAX_VALUE;
            }
            Place p = place.again();
            p.men.get(m).idle = true;
            return -p.on(n).bads();
        });
    }

    private boolean open(int c, int what) {
        int l = place.land[c];
        return what == 0 ? l != 1 : l == 5 || l == 3;
    }

    private int way(int from, int to, int what) {
        in(from, 0, 47);
        in(to, 0, 47);
        in(what, 0, 1);
        ask(open(from, what), "NONE");
        int[] steps = new int[48];
        java.util.Arrays.fill(steps, -1);
        steps[from] = 0;
        ArrayDeque<Integer> line = new ArrayDeque<>(List.of(from));
        while (!line.isEmpty()) {
            int c = line.remove();
            for (int d = 0; d < 48; d++) {
                if (apart(c, d) == 1 && steps[d] < 0 && open(d, what)) {
                    steps[d] = steps[c] + 1;
                    line.add(d);
                }
            }
        }
        ask(steps[to] >= 0, "NONE");
        return steps[to];
    }

    private int feed(int bytes, int n) {
        in(n, 1, 4);
        ask(tape.length() + n <= 120, "FULL");
        StringBuilder more = new StringBuilder();
        for (int i = 0; i < n; i++) {
            more.insert(0, (char) (bytes >> 8 * i & 255));
        }
        tape += more;
        return tape.length();
    }

    private int wipe() {
        int had = tape.length();
        tape = "";
        return had;
    }

    private int map() {
        String text = tape;
        tape = "";
        Place p = place.again();
        Matcher token = Pattern.compile("[a-z]+|[0-9]+|[^ ]", Pattern.DOTALL).matcher(text);
        List<String> words = new ArrayList<>();
        List<Integer> places = new ArrayList<>();
        while (token.find()) {
            words.add(token.group());
            places.add(token.start());
        }
        words.add("");
        places.add(text.length());
        int at = 0;
        int items = 0;
        while (true) {
            int end = item(p, words, at);
            if (end < 0) {
                return -1 - places.get(-1 - end);
            }
            items++;
            if (words.get(end).isEmpty()) {
                place = p;
                return items;
            }
            if (!words.get(end).equals(";")) {
                return -1 - places.get(end);
            }
            at = end + 1;
        }
    }

    private static boolean number(String word, int least, int most) {
        return word.matches("0*[0-9]{1,4}") && Integer.parseInt(word) >= least && Integer.parseInt(word) <= most;
    }

    /** Where the token behind an item is, or -1 less where the one is that can't stand there. */
    private static int item(Place p, List<String> words, int at) {
        String first = words.get(at);
        if (first.equals("income")) {
            if (!number(words.get(at + 1), 0, 20)) {
                return -2 - at;
            }
            p.income = Integer.parseInt(words.get(at + 1));
            return at + 2;
        }
        if (first.equals("land") || first.equals("map")) {
            return cellsItem(p, words, at);
        }
        if (!KINDS.contains(first) || p.men.size() == 6) {
            return -1 - at;
        }
        if (!words.get(at + 1).equals("at")) {
            return -2 - at;
        }
        if (!number(words.get(at + 2), 0, 47)) {
            return -3 - at;
        }
        Man man = new Man(KINDS.indexOf(first), Integer.parseInt(words.get(at + 2)));
        p.men.add(man);
        if (!words.get(at + 3).equals("purse")) {
            return at + 3;
        }
        if (!number(words.get(at + 4), 0, 9999)) {
            return -5 - at;
        }
        man.purse = Integer.parseInt(words.get(at + 4));
        return at + 5;
    }

    private static int cellsItem(Place p, List<String> words, int at) {
        if (!number(words.get(at + 1), 0, 47)) {
            return -2 - at;
        }
        if (!SORTS.contains(words.get(at + 2))) {
            return -3 - at;
        }
        int from = Integer.parseInt(words.get(at + 1));
        int to = from;
        int end = at + 3;
        if (words.get(end).equals("to")) {
            if (!number(words.get(at + 4), from, 47)) {
                return -5 - at;
            }
            to = Integer.parseInt(words.get(at + 4));
            end = at + 5;
        }
        for (int c = from; c <= to; c++) {
            (words.get(at).equals("land") ? p.land : p.map)[c] = SORTS.indexOf(words.get(at + 2));
        }
        return end;
    }

    private int sheet(int s, int b, int n) {
        in(s, 0, 3);
        ask(List.of(0, 8, 16, 64).contains(b), "BEYOND");
        ask(n >= 0, "SIZE");
        in(n, 0, 40);
        rows[s] = b == 0 ? null : new long[n];
        bits[s] = b;
        return b == 0 ? 0 : n;
    }

    private long write(int s, int i, long v) {
        page(s);
        in(i, 0, rows[s].length - 1);
        long was = rows[s][i];
        int shift = 64 - bits[s];
        rows[s][i] = v << shift >> shift;
        return was;
    }

    private int copy(int s, int from, int t, int to, int n) {
        in(s, 0, 3);
        in(t, 0, 3);
        ask(rows[s] != null && rows[t] != null, "MISSING");
        ask(bits[s] == bits[t], "KIND");
        ask(from >= 0 && to >= 0 && n >= 0, "BEYOND");
        ask((long) from + n <= rows[s].length && (long) to + n <= rows[t].length, "BEYOND");
        long[] were = rows[s].clone();
        for (int i = 0; i < n; i++) {
            rows[t][to + i] = were[from + i];
        }
        return n;
    }

    private int lays(int s) {
        page(s);
        int came = 0;
        for (int i = 0; i < rows[s].length; i++) {
            if (rows[s][i] >= 0 && rows[s][i] <= 5) {
                place.map[i] = (int) rows[s][i];
                came++;
            }
        }
        return came;
    }

    private int book(int s) {
        page(s);
        for (int i = 0; i < rows[s].length; i++) {
            rows[s][i] = place.on(i).bads();
        }
        return rows[s].length;
    }

    private int read(int s, int m) {
        page(s);
        man(m);
        int pairs = 0;
        for (int kind = 0; kind < 6; kind++) {
            for (int c = 0; c < 48; c++) {
                Place p = place.again();
                p.men.get(m).kind = kind;
                p.men.get(m).at = c;
                boolean so = true;
                for (int i = 0; i < rows[s].length && so; i++) {
                    so = p.bads() == rows[s][i];
                    p.year();
                }
                pairs += so ? 1 : 0;
            }
        }
        return pairs;
    }

    private int image() {
        kept = place.again();
        return 1;
    }

    private int undo() {
        ask(kept != null, "NONE");
        place = kept.again();
        return place.men.size();
    }

    private int tear() {
        int had = kept == null ? 0 : 1;
        kept = null;
        return had;
    }

    private int count(int what) {
        in(what, 0, 3);
        int land = 0;
        int map = 0;
        for (int c = 0; c < 48; c++) {
            land += place.land[c] == 0 ? 0 : 1;
            map += place.map[c] == 0 ? 0 : 1;
        }
        return new int[] {place.men.size(), tape.length(), land, map}[what];
    }

    private int status(int which) {
        in(which, -1, 6);
        int all = 0;
        for (int n : told) {
            all += n;
        }
        return which < 0 ? all : told[which];
    }
}
