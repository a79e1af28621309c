/** Boundaries of the sheets: how many, of how many bits, of how many numbers (promises 30 to 35). */
public final class SheetEdgesTest {
    private static final Edges edges = new Edges("SheetEdgesTest");
    private static final Story fresh = new Story();
    private static final int[] BITS = {8, 16, 64};
    private static final int MOST = Integer.MAX_VALUE;
    private static final int LEAST = Integer.MIN_VALUE;
    /** 0: 1 2 3 4 5 and 1: 6 7 8, of 8 bits; 2: of 16 bits; 3: missing. */
    private static final Story two = fresh.then("sheet(0, 8, 5)", "sheet(1, 8, 3)", "sheet(2, 16, 5)",
        "write(0, 0, 1)", "write(0, 1, 2)", "write(0, 2, 3)", "write(0, 3, 4)", "write(0, 4, 5)",
        "write(1, 0, 6)", "write(1, 1, 7)", "write(1, 2, 8)");

    private SheetEdgesTest() {
    }

    public static void main(String[] args) {
        sheetIsHeld();
        bitsAreHeld();
        sizeIsHeld();
        beyondAheadOfSize();
        sheetAnswersItsSize();
        sheetIsAllZero();
        writeIsHeld();
        writeToMissing();
        writeTakesTheLowestBits();
        copyIsHeld();
        copyOfMissing();
        copyOfOtherBits();
        copyOfSoMany();
        copyWrapsNowhere();
        copyAsTheyAllWere();
        laysIsHeld();
        laysSortsAlone();
        laysItsCellsAlone();
        bookIsHeld();
        bookOfNoneToForty();
        readIsHeld();
        readOfNone();
        readJustSo();
        edges.end();
    }

    // "SHEETS 0 to 3", "BEYOND: no such sheet".
    private static void sheetIsHeld() {
        for (int bits : new int[] {0, 8, 16, 64}) {
            edges.range(fresh, "sheet(#, " + bits + ", 3)", 0, 3);
            edges.range(Edges.RICH, "sheet(#, " + bits + ", 3)", 0, 3);
        }
    }

    // "of 8, 16 or 64 bits; bits 0: it is MISSING", "BEYOND: .. other bits."
    private static void bitsAreHeld() {
        for (int bits = -70; bits <= 140; bits++) {
            String call = "sheet(0, " + bits + ", 3)";
            if (bits == 0 || bits == 8 || bits == 16 || bits == 64) {
                edges.allowed(Edges.RICH, call);
            } else {
                edges.refused(Edges.RICH, call, Edges.BEYOND);
            }
        }
        edges.refused(fresh, "sheet(0, " + MOST + ", 3)", Edges.BEYOND);
        edges.refused(fresh, "sheet(0, " + LEAST + ", 3)", Edges.BEYOND);
        edges.refused(fresh, "sheet(3, 32, 3)", Edges.BEYOND);
    }

    // "SIZE: n is below 0 (also with bits 0). BEYOND: n is above 40 (also with bits 0)."
    private static void sizeIsHeld() {
        for (int bits : new int[] {0, 8, 16, 64}) {
            for (Story before : new Story[] {fresh, Edges.RICH}) {
                for (int s = 0; s < 4; s++) {
                    String form = "sheet(" + s + ", " + bits + ", #)";
                    edges.refused(before, Edges.put(form, -1), Edges.SIZE);
                    edges.refused(before, Edges.put(form, LEAST), Edges.SIZE);
                    edges.allowed(before, Edges.put(form, 0));
                    edges.allowed(before, Edges.put(form, 40));
                    edges.refused(before, Edges.put(form, 41), Edges.BEYOND);
                    edges.refused(before, Edges.put(form, MOST), Edges.BEYOND);
                }
            }
        }
    }

    private static void beyondAheadOfSize() {
        for (int n : new int[] {-1, LEAST}) {
            edges.refused(Edges.RICH, "sheet(4, 8, " + n + ")", Edges.BEYOND);
            edges.refused(Edges.RICH, "sheet(-1, 0, " + n + ")", Edges.BEYOND);
            edges.refused(Edges.RICH, "sheet(0, 32, " + n + ")", Edges.BEYOND);
            edges.refused(Edges.RICH, "sheet(0, 1, " + n + ")", Edges.BEYOND);
            edges.refused(Edges.RICH, "sheet(4, 32, " + n + ")", Edges.BEYOND);
        }
    }

    // "n (0 if it is MISSING)".
    private static void sheetAnswersItsSize() {
        for (int n : new int[] {0, 1, 39, 40}) {
            for (int bits : BITS) {
                Story made = fresh.then("sheet(3, " + bits + ", " + n + ")");
                edges.same("sheet of " + n, made.answer(), n);
                edges.refused(made, "write(3, " + n + ", 1)", Edges.BEYOND);
                if (n > 0) {
                    edges.answers(made, "write(3, " + (n - 1) + ", 1)", 0);
                }
            }
            edges.answers(Edges.RICH, "sheet(1, 0, " + n + ")", 0);
            edges.refused(Edges.RICH.then("sheet(1, 0, " + n + ")"), "write(1, 0, 1)", Edges.MISSING);
        }
    }

    // "A sheet has n numbers, all 0": whatever it had.
    private static void sheetIsAllZero() {
        Story filled = fresh.then("sheet(0, 64, 40)");
        for (int i = 0; i < 40; i++) {
            filled = filled.then("write(0, " + i + ", -1)");
        }
        Story anew = filled.then("sheet(0, 64, 40)");
        Story less = filled.then("sheet(0, 8, 0)", "sheet(0, 16, 40)");
        Story missing = filled.then("sheet(0, 0, 40)", "sheet(0, 8, 40)");
        for (int i = 0; i < 40; i++) {
            String call = "write(0, " + i + ", 1)";
            edges.answers(filled, call, -1);
            edges.answers(anew, call, 0);
            edges.answers(less, call, 0);
            edges.answers(missing, call, 0);
        }
    }

    // "BEYOND: no such sheet. MISSING. BEYOND: no such number."
    private static void writeIsHeld() {
        Story full = fresh.then("sheet(0, 8, 40)", "sheet(1, 16, 40)", "sheet(2, 64, 40)", "sheet(3, 8, 40)");
        edges.range(full, "write(#, 0, 5)", 0, 3);
        for (int s = 0; s < 4; s++) {
            edges.range(full, "write(" + s + ", #, 5)", 0, 39);
        }
        edges.range(fresh.then("sheet(3, 64, 1)"), "write(3, #, 5)", 0, 0);
        edges.range(fresh.then("sheet(3, 64, 7)"), "write(3, #, 5)", 0, 6);
        edges.beyond(fresh.then("sheet(3, 64, 0)"), "write(3, #, 5)", 1, -1);
        edges.range(Edges.RICH, "write(0, #, 7)", 0, 2);
    }

    private static void writeToMissing() {
        for (int i : new int[] {0, 39, 40, -1, LEAST, MOST}) {
            edges.refused(fresh, "write(0, " + i + ", 1)", Edges.MISSING);
            edges.refused(Edges.RICH, "write(3, " + i + ", 1)", Edges.MISSING);
            edges.refused(fresh, "write(4, " + i + ", 1)", Edges.BEYOND);
            edges.refused(fresh, "write(-1, " + i + ", 1)", Edges.BEYOND);
        }
    }

    // "becomes v (its lowest bits)".
    private static void writeTakesTheLowestBits() {
        long[][] of8 = {{127, 127}, {128, -128}, {255, -1}, {256, 0}, {257, 1}, {-1, -1}, {-128, -128}, {-129, 127},
            {Long.MAX_VALUE, -1}, {Long.MIN_VALUE, 0}, {1L << 32, 0}, {0x1234567890L, (byte) 0x90}};
        long[][] of16 = {{255, 255}, {32767, 32767}, {32768, -32768}, {65535, -1}, {65536, 0}, {65537, 1}, {-1, -1},
            {-32768, -32768}, {-32769, 32767}, {Long.MAX_VALUE, -1}, {Long.MIN_VALUE, 0}, {1L << 32, 0}};
        long[][] of64 = {{255, 255}, {65536, 65536}, {1L << 32, 1L << 32}, {Long.MAX_VALUE, Long.MAX_VALUE},
            {Long.MIN_VALUE, Long.MIN_VALUE}, {-1, -1}};
        writes(8, of8);
        writes(16, of16);
        writes(64, of64);
    }

    private static void writes(int bits, long[][] pairs) {
        for (long[] pair : pairs) {
            Story written = fresh.then("sheet(2, " + bits + ", 2)", "write(2, 1, " + pair[0] + ")");
            edges.answers(written, "write(2, 1, 0)", pair[1]);
            edges.answers(written, "write(2, 0, 0)", 0);
        }
    }

    // "BEYOND: no such sheet (either)."
    private static void copyIsHeld() {
        Story full = fresh.then("sheet(0, 8, 3)", "sheet(1, 8, 3)", "sheet(2, 8, 3)", "sheet(3, 8, 3)");
        edges.range(full, "copy(#, 0, 0, 0, 1)", 0, 3);
        edges.range(full, "copy(0, 0, #, 0, 1)", 0, 3);
        // Ahead of MISSING, KIND and the other BEYOND.
        edges.beyond(fresh, "copy(#, 0, 0, 0, 1)", 0, 3);
        edges.beyond(fresh, "copy(0, 0, #, 0, 1)", 0, 3);
        edges.beyond(two, "copy(#, -1, 3, -1, -1)", 0, 3);
        edges.beyond(two, "copy(3, -1, #, -1, -1)", 0, 3);
    }

    // "MISSING: one is."
    private static void copyOfMissing() {
        edges.refused(two, "copy(3, 0, 0, 0, 0)", Edges.MISSING);
        edges.refused(two, "copy(0, 0, 3, 0, 0)", Edges.MISSING);
        edges.refused(two, "copy(3, 0, 3, 0, 0)", Edges.MISSING);
        edges.refused(fresh, "copy(0, 0, 1, 0, 0)", Edges.MISSING);
        // Ahead of KIND and of BEYOND.
        edges.refused(two, "copy(3, 0, 2, 0, 9)", Edges.MISSING);
        edges.refused(two, "copy(2, -1, 3, -1, -1)", Edges.MISSING);
        edges.allowed(two.then("sheet(3, 8, 0)"), "copy(0, 0, 3, 0, 0)");
    }

    // "KIND: they are not of as many bits."
    private static void copyOfOtherBits() {
        for (int bits : BITS) {
            for (int other : BITS) {
                Story pair = fresh.then("sheet(0, " + bits + ", 2)", "sheet(3, " + other + ", 2)", "write(0, 1, 9)");
                if (bits == other) {
                    edges.answers(pair, "copy(0, 0, 3, 0, 2)", 2);
                    edges.answers(pair.then("copy(0, 0, 3, 0, 2)"), "write(3, 1, 0)", 9);
                } else {
                    edges.refused(pair, "copy(0, 0, 3, 0, 2)", Edges.KIND);
                    edges.refused(pair, "copy(0, 0, 3, 0, 0)", Edges.KIND);
                    // Ahead of BEYOND.
                    edges.refused(pair, "copy(0, -1, 3, 0, 2)", Edges.KIND);
                    edges.refused(pair, "copy(0, 0, 3, 1, 2)", Edges.KIND);
                    edges.refused(pair, "copy(0, 0, 3, 0, -1)", Edges.KIND);
                }
            }
        }
    }

    // "BEYOND: one has not so many, or from, to or n is below 0."
    private static void copyOfSoMany() {
        edges.answers(two, "copy(0, 2, 1, 0, 3)", 3);
        edges.refused(two, "copy(0, 3, 1, 0, 3)", Edges.BEYOND);
        edges.answers(two, "copy(0, 0, 1, 0, 3)", 3);
        edges.refused(two, "copy(0, 0, 1, 0, 4)", Edges.BEYOND);
        edges.answers(two, "copy(0, 0, 1, 1, 2)", 2);
        edges.refused(two, "copy(0, 0, 1, 1, 3)", Edges.BEYOND);
        edges.refused(two, "copy(0, 0, 1, 2, 2)", Edges.BEYOND);
        edges.answers(two, "copy(0, 4, 1, 2, 1)", 1);
        edges.refused(two, "copy(0, 5, 1, 2, 1)", Edges.BEYOND);
        edges.refused(two, "copy(0, 4, 1, 3, 1)", Edges.BEYOND);
        edges.asks(two, "copy(0, 5, 1, 3, 0)", 0);
        edges.asks(two, "copy(0, 0, 1, 0, 0)", 0);
        edges.refused(two, "copy(0, 6, 1, 3, 0)", Edges.BEYOND);
        edges.refused(two, "copy(0, 5, 1, 4, 0)", Edges.BEYOND);
        edges.answers(two, "copy(1, 0, 0, 2, 3)", 3);
        edges.refused(two, "copy(1, 0, 0, 3, 3)", Edges.BEYOND);
        edges.refused(two, "copy(1, 0, 0, 0, 4)", Edges.BEYOND);
        edges.refused(two, "copy(0, -1, 1, 0, 1)", Edges.BEYOND);
        edges.refused(two, "copy(0, 0, 1, -1, 1)", Edges.BEYOND);
        edges.refused(two, "copy(0, 0, 1, 0, -1)", Edges.BEYOND);
        edges.refused(two, "copy(0, -1, 1, 0, 0)", Edges.BEYOND);
        edges.refused(two, "copy(0, 0, 1, -1, 0)", Edges.BEYOND);
        edges.refused(two, "copy(0, 1, 1, 1, -1)", Edges.BEYOND);
        Story most = fresh.then("sheet(0, 16, 40)", "sheet(1, 16, 40)", "write(0, 39, 9)", "write(0, 0, 8)");
        edges.answers(most, "copy(0, 0, 1, 0, 40)", 40);
        edges.answers(most.then("copy(0, 0, 1, 0, 40)"), "write(1, 39, 0)", 9);
        edges.answers(most.then("copy(0, 0, 1, 0, 40)"), "write(1, 0, 0)", 8);
        edges.refused(most, "copy(0, 0, 1, 0, 41)", Edges.BEYOND);
        edges.refused(most, "copy(0, 1, 1, 0, 40)", Edges.BEYOND);
        edges.refused(most, "copy(0, 0, 1, 1, 40)", Edges.BEYOND);
        Story empty = fresh.then("sheet(0, 16, 0)", "sheet(1, 16, 0)");
        edges.asks(empty, "copy(0, 0, 1, 0, 0)", 0);
        edges.refused(empty, "copy(0, 0, 1, 0, 1)", Edges.BEYOND);
        edges.refused(empty, "copy(0, 1, 1, 0, 0)", Edges.BEYOND);
    }

    private static void copyWrapsNowhere() {
        for (int far : new int[] {MOST, MOST - 1, MOST - 4, LEAST, LEAST + 1, LEAST + 4, 1 << 30, -(1 << 30)}) {
            edges.refused(two, "copy(0, " + far + ", 1, 0, 1)", Edges.BEYOND);
            edges.refused(two, "copy(0, 0, 1, " + far + ", 1)", Edges.BEYOND);
            edges.refused(two, "copy(0, 0, 1, 0, " + far + ")", Edges.BEYOND);
            edges.refused(two, "copy(0, 1, 1, 1, " + far + ")", Edges.BEYOND);
            edges.refused(two, "copy(0, " + far + ", 1, 0, " + far + ")", Edges.BEYOND);
            edges.refused(two, "copy(0, " + far + ", 1, " + far + ", " + far + ")", Edges.BEYOND);
            edges.refused(two, "copy(0, " + far + ", 1, 0, 0)", Edges.BEYOND);
            edges.refused(two, "copy(0, 0, 1, " + far + ", 0)", Edges.BEYOND);
        }
    }

    // "(as they all were)".
    private static void copyAsTheyAllWere() {
        row(two.then("copy(0, 0, 0, 1, 4)"), 0, 1, 1, 2, 3, 4);
        row(two.then("copy(0, 1, 0, 0, 4)"), 0, 2, 3, 4, 5, 5);
        row(two.then("copy(0, 0, 0, 2, 3)"), 0, 1, 2, 1, 2, 3);
        row(two.then("copy(0, 2, 0, 0, 3)"), 0, 3, 4, 5, 4, 5);
        row(two.then("copy(0, 0, 0, 0, 5)"), 0, 1, 2, 3, 4, 5);
        row(two.then("copy(0, 1, 1, 0, 3)"), 0, 1, 2, 3, 4, 5);
        row(two.then("copy(0, 1, 1, 0, 3)"), 1, 2, 3, 4);
        row(two.then("copy(0, 1, 1, 2, 1)"), 1, 6, 7, 2);
    }

    private static void row(Story story, int s, int... due) {
        for (int i = 0; i < due.length; i++) {
            edges.answers(story, "write(" + s + ", " + i + ", 0)", due[i]);
        }
        edges.answers(story, "write(" + s + ", " + due.length + ", 0)", Edges.BEYOND);
    }

    // "BEYOND: no such sheet. MISSING."
    private static void laysIsHeld() {
        Story all = fresh.then("sheet(0, 8, 2)", "sheet(1, 16, 2)", "sheet(2, 64, 2)", "sheet(3, 8, 2)");
        edges.range(all, "lays(#)", 0, 3);
        edges.beyond(fresh, "lays(#)", 0, 3);
        edges.beyond(Edges.RICH, "lays(#)", 0, 3);
        edges.refused(Edges.RICH, "lays(3)", Edges.MISSING);
        for (int s = 0; s < 4; s++) {
            edges.refused(fresh, "lays(" + s + ")", Edges.MISSING);
        }
        edges.asks(Edges.RICH, "lays(2)", 0);
    }

    // "(those that are no SORT are left out): how many came".
    private static void laysSortsAlone() {
        for (int bits : BITS) {
            Story one = fresh.then("sheet(0, " + bits + ", 3)", "draw(1, 1, 4)");
            for (int sort = 0; sort < 6; sort++) {
                Story laid = one.then("write(0, 1, " + sort + ")", "lays(0)");
                edges.same("lays", laid.answer(), 3);
                edges.answers(laid, "cell(1, 1)", sort);
                edges.answers(laid, "cell(1, 0)", 0);
            }
            for (int no : new int[] {-1, 6, 7, -6, 127, -128}) {
                Story laid = one.then("write(0, 1, " + no + ")", "write(0, 2, 5)", "lays(0)");
                edges.same("lays without " + no, laid.answer(), 2);
                edges.answers(laid, "cell(0, 1)", 0);
                edges.answers(laid, "cell(1, 1)", 4);
                edges.answers(laid, "cell(2, 1)", 5);
                edges.answers(laid, "cell(3, 1)", 0);
            }
        }
        Story wide = fresh.then("sheet(0, 64, 3)", "write(0, 0, 4294967301)", "write(0, 1, " + Long.MIN_VALUE + ")",
            "write(0, 2, " + Long.MAX_VALUE + ")");
        edges.asks(wide, "lays(0)", 0);
        Story cut = fresh.then("sheet(0, 8, 1)", "write(0, 0, 261)");
        edges.answers(cut, "lays(0)", 1);
        edges.answers(cut.then("lays(0)"), "cell(0, 1)", 5);
    }

    // "THE MAP of CELLS 0, 1, ..": as many as there are numbers, 40 at most.
    private static void laysItsCellsAlone() {
        Story hills = fresh.fed("map 0 hill to 47").then("map()");
        for (int n : new int[] {0, 1, 39, 40}) {
            Story laid = hills.then("sheet(0, 8, " + n + ")", "lays(0)");
            edges.same("lays", laid.answer(), n);
            edges.answers(laid, "count(3)", 48 - n);
            edges.answers(laid, "cells(0)", Edges.ALL_CELLS & ~((1L << n) - 1));
        }
    }

    private static void bookIsHeld() {
        Story all = fresh.then("sheet(0, 8, 2)", "sheet(1, 16, 2)", "sheet(2, 64, 2)", "sheet(3, 8, 2)");
        edges.range(all, "book(#)", 0, 3);
        edges.beyond(fresh, "book(#)", 0, 3);
        edges.beyond(Edges.RICH, "book(#)", 0, 3);
        edges.refused(Edges.RICH, "book(3)", Edges.MISSING);
        for (int s = 0; s < 4; s++) {
            edges.refused(fresh, "book(" + s + ")", Edges.MISSING);
        }
    }

    // "comes to a sheet, as many as it has numbers: how many".
    private static void bookOfNoneToForty() {
        edges.asks(Edges.RICH, "book(2)", 0);
        Story all = fresh.fed("map 0 hill to 47").then("map()", "mender(3, 0)", "set(0, 2, 9999)");
        for (int bits : BITS) {
            for (int n : new int[] {0, 1, 2, 39, 40}) {
                Story book = all.then("sheet(3, " + bits + ", " + n + ")", "book(3)");
                edges.same("book", book.answer(), n);
                for (int i = 0; i < n; i++) {
                    edges.answers(book, "write(3, " + i + ", 0)", 48 - i);
                }
                edges.holds("a book changes no more", book.present().equals(all.present()));
                edges.answers(book, "status(-1)", 0);
            }
        }
    }

    // "BEYOND: no such sheet. MISSING. BEYOND: mender."
    private static void readIsHeld() {
        Story all = fresh.then("mender(0, 0)", "sheet(0, 8, 1)", "sheet(1, 16, 1)", "sheet(2, 64, 1)", "sheet(3, 8, 1)");
        edges.range(all, "read(#, 0)", 0, 3);
        edges.range(all, "read(3, #)", 0, 0);
        edges.beyond(Edges.RICH, "read(#, 0)", 0, 3);
        edges.beyond(Edges.RICH, "read(0, #)", 0, 2);
        // The sheet first, then whether it is missing, then the mender.
        edges.beyond(fresh, "read(#, 0)", 0, 3);
        edges.refused(fresh, "read(0, 0)", Edges.MISSING);
        edges.refused(Edges.RICH, "read(3, 0)", Edges.MISSING);
        edges.refused(Edges.RICH, "read(3, 3)", Edges.MISSING);
        edges.refused(Edges.RICH, "read(3, -1)", Edges.MISSING);
        edges.refused(fresh.then("sheet(0, 8, 0)"), "read(0, 0)", Edges.BEYOND);
    }

    private static void readOfNone() {
        Story busy = fresh.then("mender(0, 0)", "draw(20, 1, 3)", "draw(9, 1, 4)");
        for (int bits : BITS) {
            edges.asks(busy.then("sheet(0, " + bits + ", 0)"), "read(0, 0)", 288);
        }
    }

    // "how many pairs of a KIND and a CELL that a MENDER is AT make it just so".
    private static void readJustSo() {
        Story village = fresh.then("mender(0, 7)", "draw(20, 1, 3)", "sheet(0, 64, 1)");
        edges.asks(village, "read(0, 0)", 0);
        edges.asks(village.then("write(0, 0, 1)"), "read(0, 0)", 288);
        edges.asks(village.then("write(0, 0, 2)"), "read(0, 0)", 0);
        edges.asks(village.then("write(0, 0, -1)"), "read(0, 0)", 0);
        edges.asks(village.then("write(0, 0, 4294967297)"), "read(0, 0)", 0);
        Story year = village.then("sheet(0, 64, 2)", "write(0, 0, 1)");
        edges.asks(year, "read(0, 0)", 48);
        edges.asks(year.then("write(0, 1, 4)"), "read(0, 0)", 240);
        edges.asks(year.then("write(0, 1, 1)"), "read(0, 0)", 0);
        // The last of 40 numbers counts as well: a briber bribes one of 48 each year.
        Story long40 = fresh.fed("map 0 hill to 47").then("map()", "mender(3, 0)", "set(0, 2, 9999)", "sheet(0, 8, 40)", "book(0)");
        edges.asks(long40, "read(0, 0)", 288);
        edges.asks(long40.then("write(0, 39, 10)"), "read(0, 0)", 0);
        edges.asks(long40.then("write(0, 0, 47)"), "read(0, 0)", 0);
        // Menders, diggers and movers in the six cells of the last column go for the hill, and can't pay.
        Story ends = fresh.then("mender(0, 5)", "income(0)", "set(0, 2, 5)", "draw(46, 1, 1)", "draw(47, 1, 4)",
            "sheet(0, 8, 2)", "write(0, 0, 2)", "write(0, 1, 2)");
        edges.asks(ends, "read(0, 0)", 6 + 6 + 48 + 48 + 6 + 48);
    }
}
