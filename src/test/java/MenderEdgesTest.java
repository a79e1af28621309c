/** Boundaries of the menders: how many, purses, kinds, costs, mending (promises 6 to 12). */
public final class MenderEdgesTest {
    private static final Edges edges = new Edges("MenderEdgesTest");
    private static final Story fresh = new Story();
    private static final Story five = fresh.then("draw(20, 1, 4)", "draw(30, 1, 4)", "sheet(0, 8, 2)",
        "mender(0, 0)", "mender(1, 11)", "mender(2, 22)", "mender(3, 33)", "mender(4, 44)");
    private static final Story six = five.then("mender(5, 47)");
    private static final String[] ABOVE = {"0", "01", "02", "03", "014", "025"};

    private MenderEdgesTest() {
    }

    public static void main(String[] args) {
        menderIsHeld();
        sixAtMost();
        beyondAheadOfFull();
        aNewOne();
        numbersOfMenders();
        ofIsHeld();
        goesForNone();
        goesForTheNearest();
        insurerGoesForTheDearest();
        setIsHeld();
        setAtItsEnds();
        turnIsHeld();
        asIsHeld();
        asOneAbove();
        costIsHeld();
        costByKinds();
        oneAtLeast();
        mendIsHeld();
        purseIsCostOrMore();
        paidIsHeld();
        besideANewVillage();
        besideANewWater();
        besideOtherSorts();
        besideABribe();
        edges.end();
    }

    // "BEYOND: kind, cell."
    private static void menderIsHeld() {
        for (Story before : new Story[] {fresh, Edges.RICH, five}) {
            edges.range(before, "mender(#, 5)", 0, 5);
            edges.range(before, "mender(0, #)", 0, 47);
        }
    }

    // "MENDERS 0, 1, .. (at most 6)", "FULL".
    private static void sixAtMost() {
        Story before = fresh;
        for (int m = 0; m < 6; m++) {
            edges.answers(before, "mender(" + m + ", 47)", m);
            before = before.then("mender(" + m + ", 47)");
            edges.answers(before, "count(0)", m + 1);
        }
        edges.answers(five, "mender(5, 0)", 5);
        for (int kind = 0; kind < 6; kind++) {
            edges.refused(six, "mender(" + kind + ", 0)", Edges.FULL);
            edges.refused(six, "mender(" + kind + ", 47)", Edges.FULL);
        }
        edges.answers(six.then("mender(0, 0)"), "count(0)", 6);
        edges.answers(fresh.then("image()").thenTimes(6, "mender(0, 0)").then("undo()"), "mender(0, 0)", 0);
    }

    private static void beyondAheadOfFull() {
        edges.beyond(six, "mender(#, 0)", 0, 5);
        edges.beyond(six, "mender(0, #)", 0, 47);
    }

    // "each AT a CELL, with a PURSE (.. 50 at first) and PAID (0 at first ..)".
    private static void aNewOne() {
        for (int kind = 0; kind < 6; kind++) {
            Story one = fresh.then("mender(" + kind + ", 47)");
            edges.asks(one, "of(0, 0)", kind);
            edges.asks(one, "of(0, 1)", 47);
            edges.asks(one, "of(0, 2)", 50);
            edges.asks(one, "of(0, 3)", 0);
        }
        Story again = six.then("image()", "set(5, 2, 9)", "mend(5, 20)");
        edges.answers(five.then("image()", "mender(5, 3)", "mend(5, 20)", "undo()", "mender(5, 4)"), "of(5, 3)", 0);
        edges.answers(again.then("undo()"), "of(5, 2)", 50);
    }

    // All acts that ask for a MENDER: 0 to one less than there are; with nobody there, not even 0.
    private static void numbersOfMenders() {
        String[] forms = {
            "of(#, 0)", "of(#, 5)", "set(#, 1, 5)", "set(#, 2, 5)", "turn(#, 1)", "as(#, 0)", "cost(#, 20)",
            "mend(#, 20)", "on(#, 1, 0)", "cheapest(#)", "best(#)", "two(#)", "left(#)", "kind(#, 1)",
            "purse(#, 1)", "read(0, #)",
        };
        Story nobody = fresh.then("draw(20, 1, 4)", "draw(30, 1, 4)", "sheet(0, 8, 2)");
        Story one = nobody.then("mender(0, 0)");
        for (String form : forms) {
            edges.beyond(nobody, form, 1, -1);
            edges.range(one, form, 0, 0);
            edges.range(Edges.RICH, form, 0, 2);
            edges.range(five, form, 0, 4);
            edges.range(six, form, 0, 5);
            edges.refused(Edges.RICH.then("mender(0, 0)", "undo()", "draw(20, 1, 1)"), form.replace('#', '3'), Edges.BEYOND);
        }
    }

    private static void ofIsHeld() {
        edges.range(six, "of(0, #)", 0, 5);
        edges.range(six, "of(5, #)", 0, 5);
        edges.range(Edges.RICH, "of(2, #)", 0, 5);
    }

    // "the CELL that it GOES FOR (-1: none), 5 COST of that (0: none)".
    private static void goesForNone() {
        for (int kind = 0; kind < 6; kind++) {
            Story none = fresh.then("mender(" + kind + ", 47)");
            edges.asks(none, "of(0, 4)", -1);
            edges.asks(none, "of(0, 5)", 0);
            for (int cell : new int[] {0, 47}) {
                Story one = none.then("draw(" + cell + ", 1, 2)");
                edges.asks(one, "of(0, 4)", cell);
                edges.asks(one, "of(0, 5)", kind == 5 ? 3 : 8);
            }
        }
    }

    // "the WRONG CELL nearest to where one is AT (by APART); of several the least."
    private static void goesForTheNearest() {
        for (int at = 0; at < 48; at++) {
            for (int c = 0; c < 48; c++) {
                TrueMaps x = new TrueMaps();
                x.mender((at + c) % 5, at);
                x.draw(c, 1, 2);
                for (int d = c + 1; d < 48; d++) {
                    x.draw(d, 1, 5);
                    int due = Edges.apart(at, c) <= Edges.apart(at, d) ? c : d;
                    edges.same("from " + at + " to " + c + " or " + d, x.of(0, 4), due);
                    x.draw(d, 1, 0);
                }
            }
        }
    }

    // "INSURER: the WRONG CELL of most COST; of several the least."
    private static void insurerGoesForTheDearest() {
        Story one = fresh.then("mender(5, 0)");
        edges.asks(one.then("draw(1, 1, 4)", "draw(47, 1, 5)"), "of(0, 4)", 47);
        edges.asks(one.then("draw(1, 1, 5)", "draw(47, 1, 5)"), "of(0, 4)", 1);
        edges.asks(one.then("draw(1, 1, 5)", "draw(46, 1, 5)", "draw(47, 1, 1)"), "of(0, 4)", 46);
        edges.asks(one.then("set(0, 2, 120)", "draw(3, 1, 4)", "draw(5, 1, 5)"), "of(0, 4)", 5);
        edges.asks(one.then("set(0, 2, 150)", "draw(3, 1, 4)", "draw(5, 1, 5)"), "of(0, 4)", 5);
        edges.asks(one.then("set(0, 2, 160)", "draw(3, 1, 4)", "draw(5, 1, 5)"), "of(0, 4)", 3);
        edges.asks(one.then("set(0, 2, 9999)", "draw(3, 1, 1)", "draw(5, 1, 5)"), "of(0, 4)", 3);
    }

    // "AT (what 1), PURSE (2)": each is held to its own least and most.
    private static void setIsHeld() {
        for (Story before : new Story[] {six, Edges.RICH}) {
            edges.range(before, "set(0, #, 5)", 1, 2);
            edges.range(before, "set(0, 1, #)", 0, 47);
            edges.range(before, "set(0, 2, #)", 0, 9999);
        }
        edges.refused(six, "set(6, 0, -1)", Edges.BEYOND);
    }

    private static void setAtItsEnds() {
        edges.answers(six, "set(5, 1, 0)", 47);
        edges.answers(six.then("set(5, 1, 0)"), "of(5, 1)", 0);
        edges.answers(six.then("set(0, 1, 47)"), "of(0, 1)", 47);
        edges.answers(six, "set(5, 2, 9999)", 50);
        edges.answers(six.then("set(5, 2, 9999)"), "of(5, 2)", 9999);
        edges.answers(six.then("set(5, 2, 9999)"), "set(5, 2, 0)", 9999);
        edges.answers(six.then("set(5, 2, 0)"), "of(5, 2)", 0);
        edges.answers(six.then("set(5, 2, 48)"), "of(5, 2)", 48);
    }

    private static void turnIsHeld() {
        edges.range(six, "turn(0, #)", 0, 5);
        edges.range(six, "turn(5, #)", 0, 5);
        edges.range(Edges.RICH, "turn(2, #)", 0, 5);
        edges.answers(six, "turn(5, 0)", 5);
        edges.answers(six, "turn(0, 5)", 0);
        edges.answers(six.then("turn(0, 5)"), "of(0, 0)", 5);
    }

    private static void asIsHeld() {
        edges.allowed(six, "as(5, 0)");
        edges.allowed(six, "as(5, 5)");
        edges.beyond(six, "as(5, #)", 0, 5);
        // Ahead of KIND, which it would be for any kind but 0.
        edges.beyond(six, "as(0, #)", 0, 5);
        edges.beyond(six, "as(#, 5)", 0, 5);
    }

    // "KIND: it isn't of that kind, nor of one under it."
    private static void asOneAbove() {
        for (int kind = 0; kind < 6; kind++) {
            Story one = fresh.then("mender(" + kind + ", 3)", "set(0, 2, 9999)");
            for (int above = 0; above < 6; above++) {
                String call = "as(0, " + above + ")";
                if (ABOVE[kind].indexOf('0' + above) >= 0) {
                    edges.asks(one, call, 9999);
                } else {
                    edges.refused(one, call, Edges.KIND);
                }
            }
        }
    }

    private static void costIsHeld() {
        Story all = fresh.fed("map 0 hill to 47").then("map()", "mender(0, 0)");
        edges.range(all, "cost(0, #)", 0, 47);
        // "STATE: it isn't WRONG": neither before it was drawn so, nor after.
        edges.refused(fresh.then("mender(0, 0)"), "cost(0, 0)", Edges.STATE);
        edges.refused(fresh.then("mender(0, 0)"), "cost(0, 47)", Edges.STATE);
        edges.refused(all.then("draw(47, 0, 4)"), "cost(0, 47)", Edges.STATE);
        edges.asks(all.then("draw(47, 0, 5)"), "cost(0, 47)", 5);
        // BEYOND ahead of STATE.
        edges.beyond(fresh.then("mender(0, 0)"), "cost(0, #)", 0, 47);
        edges.beyond(fresh.then("mender(0, 0)"), "cost(#, 0)", 0, 0);
    }

    // All pairs of SORTS, 0 to 4 WRONG beside; "Quotients are cut."
    private static void costByKinds() {
        int[] asMender = {0, 5, 8, 11, 14, 17};
        int[] half = {0, 2, 4, 5, 7, 8};
        int[] around = {12, 21, 28, 19};
        for (int l = 0; l < 6; l++) {
            for (int m = 0; m < 6; m++) {
                for (int w = 0; w <= 4 && l != m; w++) {
                    Story one = fresh.then("mender(0, 0)", "draw(20, 0, " + l + ")", "draw(20, 1, " + m + ")");
                    for (int i = 0; i < w; i++) {
                        one = one.then("draw(" + around[i] + ", 1, 4)");
                    }
                    int far = Math.abs(l - m);
                    boolean water = l == 1 || m == 1;
                    boolean village = l == 3 || m == 3;
                    int dug = water ? half[far] : asMender[far];
                    int moved = village ? Math.max(1, dug - 5) : dug;
                    costs(one, asMender[far], dug, asMender[far] + w, 8 + 2 * w, moved, Math.max(1, asMender[far] + w - 5));
                }
            }
        }
    }

    private static void costs(Story one, int... due) {
        for (int kind = 0; kind < 6; kind++) {
            edges.answers(one.then("turn(0, " + kind + ")"), "cost(0, 20)", due[kind]);
        }
    }

    // "less 5 if l or m is village (1 at least)", "less a tenth of PURSE (1 at least)".
    private static void oneAtLeast() {
        Story mover = fresh.then("mender(4, 0)");
        edges.asks(mover.then("draw(20, 0, 3)", "draw(20, 1, 5)"), "cost(0, 20)", 3);
        edges.asks(mover.then("draw(20, 0, 3)", "draw(20, 1, 4)"), "cost(0, 20)", 1);
        edges.asks(mover.then("draw(20, 0, 2)", "draw(20, 1, 3)"), "cost(0, 20)", 1);
        edges.asks(mover.then("draw(20, 0, 1)", "draw(20, 1, 3)"), "cost(0, 20)", 1);
        edges.asks(mover.then("draw(20, 0, 3)", "draw(20, 1, 1)"), "cost(0, 20)", 1);
        Story insurer = fresh.then("mender(5, 0)", "draw(20, 1, 4)");
        int[][] pursesAndCosts = {
            {0, 14}, {9, 14}, {10, 13}, {19, 13}, {20, 12}, {49, 10}, {50, 9}, {119, 3}, {120, 2}, {129, 2},
            {130, 1}, {139, 1}, {140, 1}, {149, 1}, {150, 1}, {9999, 1},
        };
        for (int[] pair : pursesAndCosts) {
            edges.asks(insurer.then("set(0, 2, " + pair[0] + ")"), "cost(0, 20)", pair[1]);
            edges.asks(insurer.then("set(0, 2, " + pair[0] + ")"), "of(0, 5)", pair[1]);
        }
    }

    private static void mendIsHeld() {
        Story all = fresh.fed("map 0 hill to 47").then("map()", "mender(0, 5)");
        edges.range(all, "mend(0, #)", 0, 47);
        edges.answers(all, "mend(0, 0)", 47);
        edges.answers(all, "mend(0, 47)", 47);
        // "STATE: it isn't WRONG".
        edges.refused(all.then("mend(0, 47)"), "mend(0, 47)", Edges.STATE);
        edges.refused(fresh.then("mender(0, 5)"), "mend(0, 0)", Edges.STATE);
        // BEYOND ahead of STATE.
        Story poor = fresh.then("mender(0, 5)", "set(0, 2, 0)");
        edges.beyond(poor, "mend(0, #)", 0, 47);
        edges.beyond(poor, "mend(#, 0)", 0, 0);
    }

    // "or PURSE is less than COST": for each kind one less, then just that.
    private static void purseIsCostOrMore() {
        // An insurer's cost of 15 is 1 less from a purse of 10 on.
        int[] costs = {14, 14, 15, 10, 14, 14};
        for (int kind = 0; kind < 6; kind++) {
            Story one = fresh.then("draw(20, 1, 4)", "draw(21, 1, 1)", "mender(" + kind + ", 5)");
            int cost = costs[kind];
            edges.refused(one.then("set(0, 2, " + (cost - 1) + ")"), "mend(0, 20)", Edges.STATE);
            Story just = one.then("set(0, 2, " + cost + ")");
            edges.answers(just, "mend(0, 20)", 1);
            Story mended = just.then("mend(0, 20)");
            edges.asks(mended, "of(0, 1)", 20);
            edges.asks(mended, "of(0, 2)", 0);
            edges.asks(mended, "of(0, 3)", cost);
            edges.asks(mended, "cell(20, 2)", 0);
            edges.asks(mended, "cell(20, 0)", kind == 3 ? 0 : 4);
        }
        edges.refused(fresh.then("mender(4, 5)", "draw(20, 0, 3)", "draw(20, 1, 4)", "set(0, 2, 0)"), "mend(0, 20)",
            Edges.STATE);
    }

    /** 40 roads of 17 made and unmade 147 times: the first has paid 99960. */
    private static Story nearlyAllPaid() {
        Story before = fresh.then("mender(0, 0)", "income(0)", "sheet(0, 8, 40)", "sheet(1, 8, 40)");
        for (int i = 0; i < 40; i++) {
            before = before.then("write(1, " + i + ", 5)");
        }
        for (int round = 0; round < 147; round++) {
            if (round % 14 == 0) {
                before = before.then("set(0, 2, 9999)");
            }
            before = before.then("lays(" + (1 - round % 2) + ")", "years(40)");
        }
        return before;
    }

    // "PAID (0 at first, held to 99999)", by mend, by years, and ON.
    private static void paidIsHeld() {
        Story before = nearlyAllPaid().then("set(0, 2, 9999)", "draw(44, 1, 4)", "draw(45, 1, 4)",
            "draw(46, 0, 5)", "draw(46, 1, 4)", "draw(47, 0, 5)", "draw(47, 1, 4)");
        edges.answers(before, "of(0, 3)", 99960);
        Story at99998 = before.then("mend(0, 44)", "mend(0, 45)", "mend(0, 46)", "mend(0, 47)");
        edges.answers(at99998, "of(0, 3)", 99998);
        Story cost1 = at99998.then("turn(0, 4)", "draw(41, 0, 3)", "draw(41, 1, 4)");
        edges.answers(cost1, "cost(0, 41)", 1);
        edges.answers(cost1.then("mend(0, 41)"), "of(0, 3)", 99999);
        Story cost2 = at99998.then("turn(0, 4)", "draw(42, 0, 2)", "draw(42, 1, 1)");
        edges.answers(cost2, "cost(0, 42)", 2);
        edges.answers(cost2.then("mend(0, 42)"), "of(0, 3)", 99999);
        edges.answers(cost2.then("mend(0, 42)"), "now(3)", 99999);
        edges.answers(cost2.then("years(1)"), "of(0, 3)", 99999);
        edges.answers(cost2, "on(0, 1, 2)", 99999);
        edges.answers(cost2.then("mend(0, 42)"), "of(0, 2)", 9999 - 38 - 2);
        Story two = cost2.then("draw(41, 0, 3)", "draw(41, 1, 4)");
        edges.answers(two, "on(0, 2, 2)", 99999);
        edges.answers(two.then("years(2)"), "of(0, 3)", 99999);
        edges.answers(two.then("mend(0, 42)", "mend(0, 41)"), "of(0, 3)", 99999);
        Story shared = two.then("mender(0, 0)", "mend(1, 41)", "mend(0, 42)");
        edges.answers(shared, "now(3)", 99999 + 5);
    }

    // "if it became village, each plain BESIDE becomes road (THE LAND alone)": those that there are.
    private static void besideANewVillage() {
        for (int c = 0; c < 48; c++) {
            Story one = fresh.then("mender(0, 20)", "draw(" + c + ", 1, 3)", "mend(0, " + c + ")");
            edges.answers(one, "cells(4)", 1L << c);
            edges.answers(one, "cells(6)", Edges.beside(c));
            edges.answers(one, "cells(0)", Edges.beside(c));
            edges.answers(one, "count(3)", 1);
        }
    }

    // "If THE LAND became water by that, each road BESIDE (by THE LAND) becomes plain".
    private static void besideANewWater() {
        Story roads = fresh.fed("land 0 road to 47;map 0 road to 47").then("map()", "mender(0, 20)");
        for (int c = 0; c < 48; c++) {
            Story one = roads.then("draw(" + c + ", 1, 1)", "mend(0, " + c + ")");
            edges.answers(one, "cells(2)", 1L << c);
            edges.answers(one, "cells(1)", Edges.beside(c));
            edges.answers(one, "cells(0)", Edges.beside(c));
        }
    }

    // Other sorts beside stay, and so does all beside a cell that became another sort.
    private static void besideOtherSorts() {
        for (int became = 0; became < 6; became++) {
            for (int beside = 0; beside < 6; beside++) {
                int before = became == 4 ? 2 : 4;
                Story one = fresh.then("mender(0, 0)", "draw(20, 0, " + before + ")", "draw(20, 1, " + became + ")",
                    "draw(21, 0, " + beside + ")", "draw(21, 1, 2)", "draw(29, 0, " + beside + ")", "mend(0, 20)");
                int due = became == 1 && beside == 5 ? 0 : became == 3 && beside == 0 ? 5 : beside;
                edges.answers(one, "cell(20, 0)", became);
                edges.answers(one, "cell(21, 0)", due);
                edges.answers(one, "cell(21, 1)", 2);
                edges.answers(one, "cell(29, 0)", beside);
            }
        }
    }

    // "(BRIBER: THE MAP as THE LAND)": the land became nothing by that.
    private static void besideABribe() {
        for (int sort : new int[] {1, 3}) {
            for (int beside : new int[] {0, 5}) {
                Story one = fresh.then("mender(3, 0)", "draw(20, 0, " + sort + ")", "draw(21, 0, " + beside + ")",
                    "draw(12, 1, " + beside + ")", "mend(0, 20)");
                edges.answers(one, "cell(20, 0)", sort);
                edges.answers(one, "cell(20, 1)", sort);
                edges.answers(one, "cell(21, 0)", beside);
                edges.answers(one, "cell(21, 1)", 0);
                edges.answers(one, "cell(12, 0)", 0);
                edges.answers(one, "cell(12, 1)", beside);
            }
        }
    }
}
