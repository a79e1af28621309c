/** Boundaries of the land and the map: cells, sorts, sets, income (promises 1 to 5). */
public final class LandEdgesTest {
    private static final Edges edges = new Edges("LandEdgesTest");
    private static final Story fresh = new Story();

    private LandEdgesTest() {
    }

    public static void main(String[] args) {
        newObject();
        drawIsHeldToCellsAndSorts();
        drawAtTheEnds();
        drawTellsWhatItWas();
        wrongIfUnlike();
        cellIsHeld();
        besideThoseThatThereAre();
        besideByPairs();
        mendersAtAsASet();
        cellsIsHeld();
        cellsAsASet();
        incomeIsHeld();
        findingsInLongs();
        edges.end();
    }

    // "All plain, nobody there; THE TAPE is empty, no image is kept." Sheets are "MISSING (at first)".
    private static void newObject() {
        for (int c = 0; c < 48; c++) {
            for (int what = 0; what < 5; what++) {
                edges.answers(fresh, "cell(" + c + ", " + what + ")", 0);
            }
        }
        edges.asks(fresh, "cells(0)", 0);
        edges.asks(fresh, "cells(1)", Edges.ALL_CELLS);
        for (int what = 2; what <= 6; what++) {
            edges.asks(fresh, "cells(" + what + ")", 0);
        }
        for (int what = 0; what < 4; what++) {
            edges.asks(fresh, "count(" + what + ")", 0);
            edges.asks(fresh, "now(" + what + ")", 0);
        }
        edges.asks(fresh, "now(4)", 2);
        for (int what = 0; what < 6; what++) {
            edges.refused(fresh, "of(0, " + what + ")", Edges.BEYOND);
        }
        edges.answers(fresh, "wipe()", 0);
        edges.answers(fresh, "map()", -1);
        edges.refused(fresh, "undo()", Edges.NONE);
        edges.answers(fresh, "tear()", 0);
        for (int s = 0; s < 4; s++) {
            edges.refused(fresh, "write(" + s + ", 0, 0)", Edges.MISSING);
        }
        for (int which = -1; which <= 6; which++) {
            edges.asks(fresh, "status(" + which + ")", 0);
        }
    }

    // "CELLS 0 to 47", "SORTS: 0 .. 5", "THE LAND (what 0), THE MAP (1)".
    private static void drawIsHeldToCellsAndSorts() {
        for (Story before : new Story[] {fresh, Edges.RICH}) {
            edges.range(before, "draw(#, 0, 1)", 0, 47);
            edges.range(before, "draw(#, 1, 1)", 0, 47);
            edges.range(before, "draw(4, #, 1)", 0, 1);
            edges.range(before, "draw(4, 0, #)", 0, 5);
            edges.range(before, "draw(4, 1, #)", 0, 5);
        }
        edges.refused(Edges.RICH, "draw(48, 2, 6)", Edges.BEYOND);
        edges.refused(Edges.RICH, "draw(-1, -1, -1)", Edges.BEYOND);
    }

    private static void drawAtTheEnds() {
        for (int c : new int[] {0, 7, 8, 40, 47}) {
            Story land = fresh.then("draw(" + c + ", 0, 5)");
            edges.answers(land, "cell(" + c + ", 0)", 5);
            edges.answers(land, "cell(" + c + ", 1)", 0);
            edges.answers(land, "count(2)", 1);
            edges.answers(land, "count(3)", 0);
            edges.answers(land, "cells(6)", 1L << c);
            Story map = fresh.then("draw(" + c + ", 1, 5)");
            edges.answers(map, "cell(" + c + ", 0)", 0);
            edges.answers(map, "cell(" + c + ", 1)", 5);
            edges.answers(map, "count(2)", 0);
            edges.answers(map, "count(3)", 1);
            edges.answers(map, "cells(6)", 0);
        }
    }

    private static void drawTellsWhatItWas() {
        for (int was = 0; was < 6; was++) {
            for (int sort = 0; sort < 6; sort++) {
                Story land = fresh.then("draw(47, 0, " + was + ")");
                edges.answers(land, "draw(47, 0, " + sort + ")", was);
                edges.answers(land, "draw(47, 1, " + sort + ")", 0);
                Story map = fresh.then("draw(0, 1, " + was + ")");
                edges.answers(map, "draw(0, 1, " + sort + ")", was);
                edges.answers(map, "draw(0, 0, " + sort + ")", 0);
            }
        }
    }

    // "A CELL is WRONG, if these are unlike."
    private static void wrongIfUnlike() {
        for (int l = 0; l < 6; l++) {
            for (int m = 0; m < 6; m++) {
                Story pair = fresh.then("draw(47, 0, " + l + ")", "draw(47, 1, " + m + ")");
                int wrong = l == m ? 0 : 1;
                edges.answers(pair, "cell(47, 2)", wrong);
                edges.answers(pair, "cells(0)", (long) wrong << 47);
                edges.answers(pair, "now(1)", wrong);
                edges.answers(pair.then("draw(47, 0, " + m + ")"), "cell(47, 2)", 0);
            }
        }
    }

    private static void cellIsHeld() {
        for (int what = 0; what < 5; what++) {
            edges.range(Edges.RICH, "cell(#, " + what + ")", 0, 47);
        }
        edges.range(fresh, "cell(0, #)", 0, 4);
        edges.range(Edges.RICH, "cell(47, #)", 0, 4);
        edges.asks(Edges.RICH, "cell(20, 0)", 1);
        edges.asks(Edges.RICH, "cell(20, 1)", 4);
        edges.asks(Edges.RICH, "cell(20, 2)", 1);
    }

    // "BESIDE a CELL: those up, right, down, left of it that there are."
    private static void besideThoseThatThereAre() {
        Story all = fresh.fed("map 0 hill to 47").then("map()");
        for (int c = 0; c < 48; c++) {
            int row = c / 8;
            int column = c % 8;
            int there = (row > 0 ? 1 : 0) + (column < 7 ? 1 : 0) + (row < 5 ? 1 : 0) + (column > 0 ? 1 : 0);
            edges.answers(all, "cell(" + c + ", 3)", there);
        }
        edges.answers(all, "cell(0, 3)", 2);
        edges.answers(all, "cell(7, 3)", 2);
        edges.answers(all, "cell(40, 3)", 2);
        edges.answers(all, "cell(47, 3)", 2);
        edges.answers(all, "cell(3, 3)", 3);
        edges.answers(all, "cell(9, 3)", 4);
    }

    private static void besideByPairs() {
        for (int d = 0; d < 48; d++) {
            TrueMaps x = new TrueMaps();
            x.draw(d, 1, 4);
            for (int c = 0; c < 48; c++) {
                edges.same(d + " beside " + c, x.cell(c, 3), Edges.apart(c, d) == 1 ? 1 : 0);
            }
        }
    }

    // "MENDERS AT it, as a set": the last of six is bit 5.
    private static void mendersAtAsASet() {
        Story six = fresh.then("mender(0, 47)", "mender(1, 0)", "mender(2, 47)", "mender(3, 0)", "mender(4, 47)",
            "mender(5, 47)");
        edges.asks(six, "cell(47, 4)", 0b110101);
        edges.asks(six, "cell(0, 4)", 0b001010);
        edges.asks(six, "cell(1, 4)", 0);
        edges.asks(fresh.thenTimes(6, "mender(0, 8)"), "cell(8, 4)", 63);
        edges.asks(fresh.then("mender(0, 8)"), "cell(0, 4)", 0);
    }

    private static void cellsIsHeld() {
        edges.range(fresh, "cells(#)", 0, 6);
        edges.range(Edges.RICH, "cells(#)", 0, 6);
    }

    // "CELLS as a set (bits 0 to 47)".
    private static void cellsAsASet() {
        Story ends = fresh.then("draw(0, 1, 3)", "draw(47, 1, 3)");
        edges.asks(ends, "cells(0)", 1L | 1L << 47);
        edges.asks(ends, "cells(1)", Edges.ALL_CELLS);
        String[] names = {"plain", "water", "wood", "village", "hill", "road"};
        for (int sort = 0; sort < 6; sort++) {
            Story all = fresh.fed("land 0 " + names[sort] + " to 47").then("map()");
            edges.asks(all, "cells(0)", sort == 0 ? 0 : Edges.ALL_CELLS);
            for (int what = 1; what <= 6; what++) {
                edges.asks(all, "cells(" + what + ")", what == sort + 1 ? Edges.ALL_CELLS : 0);
            }
            Story but = all.then("draw(47, 0, " + (sort + 1) % 6 + ")");
            edges.asks(but, "cells(" + (sort + 1) + ")", Edges.ALL_CELLS >> 1);
        }
    }

    // "INCOME (0 to 20; 2 at first)".
    private static void incomeIsHeld() {
        edges.range(fresh, "income(#)", 0, 20);
        edges.range(Edges.RICH, "income(#)", 0, 20);
        edges.answers(fresh, "income(20)", 2);
        edges.answers(fresh.then("income(20)"), "now(4)", 20);
        edges.answers(fresh.then("income(20)"), "income(0)", 20);
        edges.answers(fresh.then("income(0)"), "now(4)", 0);
        edges.answers(fresh.then("income(0)", "income(21)"), "income(2)", 0);
    }

    // "FINDINGS are answers below -1000000000 .. (in longs, too)".
    private static void findingsInLongs() {
        TrueMaps x = new TrueMaps();
        edges.same("cells(7)", x.cells(7), -1000000001L);
        edges.same("write(4, 0, 0)", x.write(4, 0, 0), -1000000001L);
        edges.same("write(0, 0, 0)", x.write(0, 0, 0), -1000000006L);
    }
}
