/** Boundaries of the years: how many, the last of them, who can pay, ON (promises 13 to 18). */
public final class YearEdgesTest {
    private static final Edges edges = new Edges("YearEdgesTest");
    private static final Story fresh = new Story();
    private static final Story year9939 = fresh.thenTimes(165, "years(60)").then("years(39)");
    /** Costs of 59 at an income of 1: all is true in 60 years, the last cell to be so is 3. */
    private static final Story in60 = fresh.then("mender(0, 0)", "income(1)", "set(0, 2, 0)",
        "draw(0, 1, 5)", "draw(1, 1, 5)", "draw(2, 1, 5)", "draw(3, 1, 2)");
    /** Costs of 60: 61 years, the last cell is 5. */
    private static final Story in61 = fresh.then("mender(0, 0)", "income(1)", "set(0, 2, 0)",
        "draw(0, 1, 4)", "draw(1, 1, 4)", "draw(2, 1, 4)", "draw(3, 1, 2)",
        "draw(4, 0, 5)", "draw(4, 1, 4)", "draw(5, 0, 5)", "draw(5, 1, 4)");

    private YearEdgesTest() {
    }

    public static void main(String[] args) {
        yearsIsHeld();
        nineThousandAtMost();
        beyondAheadOfState();
        asManyYearsAsAsked();
        yearsWithNobody();
        purseIsCostOrMore();
        nothingIfNothingIsWrong();
        eachByWhatIsSoThen();
        purseIsHeld();
        nowIsHeld();
        nowOfSix();
        onIsHeld();
        onAsYearsWouldGo();
        onPastTheLastYear();
        wrongIsHeld();
        doneInNoneToSixty();
        whenIsHeld();
        whenInNoneToSixty();
        edges.end();
    }

    // "n YEARS go (1 to 60)".
    private static void yearsIsHeld() {
        edges.range(fresh, "years(#)", 1, 60);
        edges.range(Edges.RICH, "years(#)", 1, 60);
        edges.range(in60, "years(#)", 1, 60);
    }

    // "YEAR: 0 at first (9999 at most)", "STATE: YEAR would be above 9999."
    private static void nineThousandAtMost() {
        Story busy = year9939.then("mender(0, 0)", "draw(20, 1, 4)");
        edges.asks(busy, "now(0)", 9939);
        edges.answers(busy, "years(60)", 0);
        edges.answers(busy.then("years(60)"), "now(0)", 9999);
        Story year9940 = busy.then("years(1)", "draw(21, 1, 4)");
        edges.refused(year9940, "years(60)", Edges.STATE);
        edges.answers(year9940, "years(59)", 0);
        Story year9998 = busy.then("years(59)", "draw(21, 1, 4)");
        edges.refused(year9998, "years(2)", Edges.STATE);
        edges.answers(year9998, "years(1)", 0);
        Story year9999 = year9998.then("years(1)", "draw(22, 1, 4)");
        edges.asks(year9999, "now(0)", 9999);
        edges.refused(year9999, "years(1)", Edges.STATE);
        edges.refused(year9999, "years(60)", Edges.STATE);
        Story back = fresh.then("image()").thenTimes(166, "years(60)").then("years(39)", "undo()");
        edges.answers(back.then("years(60)"), "now(0)", 60);
    }

    private static void beyondAheadOfState() {
        Story year9999 = year9939.then("years(60)");
        edges.beyond(year9999, "years(#)", 1, 60);
    }

    private static void asManyYearsAsAsked() {
        for (int n : new int[] {1, 2, 59, 60}) {
            edges.answers(fresh.then("years(" + n + ")"), "now(0)", n);
        }
        edges.answers(in60, "years(59)", 1);
        edges.answers(in60, "years(60)", 0);
        edges.answers(in61, "years(60)", 1);
        edges.answers(in61.then("years(60)"), "years(1)", 0);
    }

    private static void yearsWithNobody() {
        Story nobody = fresh.then("draw(0, 1, 1)", "draw(47, 1, 1)");
        edges.answers(nobody, "years(60)", 2);
        edges.answers(nobody.then("years(60)"), "now(0)", 60);
        edges.answers(nobody.then("years(60)"), "cells(0)", 1L | 1L << 47);
    }

    // "if PURSE is COST or more .. then, whether it did or not, PURSE is INCOME more".
    private static void purseIsCostOrMore() {
        int[] costs = {14, 14, 14, 8, 14, 13};
        for (int kind = 0; kind < 6; kind++) {
            Story one = fresh.then("draw(20, 1, 4)", "mender(" + kind + ", 5)", "income(20)");
            Story less = one.then("set(0, 2, " + (costs[kind] - 1) + ")");
            edges.answers(less, "years(1)", 1);
            edges.answers(less.then("years(1)"), "of(0, 1)", 5);
            edges.answers(less.then("years(1)"), "of(0, 2)", costs[kind] - 1 + 20);
            edges.answers(less.then("years(1)"), "of(0, 3)", 0);
            edges.asks(less, "wrong(1)", 1);
            Story just = one.then("set(0, 2, " + costs[kind] + ")");
            edges.answers(just, "years(1)", 0);
            edges.answers(just.then("years(1)"), "of(0, 1)", 20);
            edges.answers(just.then("years(1)"), "of(0, 2)", 20);
            edges.answers(just.then("years(1)"), "of(0, 3)", costs[kind]);
            edges.asks(just, "wrong(1)", 0);
        }
    }

    // "if no CELL is WRONG, nothing": no income either.
    private static void nothingIfNothingIsWrong() {
        for (int kind = 0; kind < 6; kind++) {
            Story idle = fresh.then("mender(" + kind + ", 5)", "years(60)");
            edges.answers(idle, "of(0, 1)", 5);
            edges.answers(idle, "of(0, 2)", 50);
            edges.answers(idle, "of(0, 3)", 0);
            edges.answers(idle, "now(0)", 60);
        }
    }

    // "MENDERS by numbers (each by what is so then)": none is left for those behind.
    private static void eachByWhatIsSoThen() {
        Story two = fresh.then("mender(0, 5)", "mender(0, 6)", "draw(20, 1, 4)");
        edges.answers(two.then("years(1)"), "of(0, 2)", 50 - 14 + 2);
        edges.answers(two.then("years(1)"), "of(1, 2)", 50);
        edges.answers(two.then("years(1)"), "of(1, 1)", 6);
        Story poor = two.then("set(0, 2, 13)");
        edges.answers(poor.then("years(1)"), "of(0, 2)", 15);
        edges.answers(poor.then("years(1)"), "of(1, 2)", 50 - 14 + 2);
        edges.answers(poor.then("years(1)"), "of(1, 1)", 20);
        Story six = fresh.thenTimes(6, "mender(0, 0)").fed("map 0 hill to 6").then("map()");
        edges.answers(six, "years(1)", 1);
        edges.answers(six.then("years(1)"), "cell(5, 4)", 1 << 5);
    }

    // "PURSE is INCOME more (9999 at most)".
    private static void purseIsHeld() {
        Story rich = fresh.then("mender(0, 0)", "set(0, 2, 9999)", "draw(20, 1, 1)");
        int[][] incomesAndPurses = {{0, 9994}, {4, 9998}, {5, 9999}, {6, 9999}, {20, 9999}};
        for (int[] pair : incomesAndPurses) {
            Story paid = rich.then("income(" + pair[0] + ")");
            edges.asks(paid, "on(0, 1, 1)", pair[1]);
            edges.answers(paid.then("years(1)"), "of(0, 2)", pair[1]);
            edges.answers(paid.then("years(1)"), "of(0, 3)", 5);
        }
    }

    private static void nowIsHeld() {
        edges.range(fresh, "now(#)", 0, 4);
        edges.range(Edges.RICH, "now(#)", 0, 4);
        edges.range(year9939, "now(#)", 0, 4);
    }

    private static void nowOfSix() {
        Story six = fresh.thenTimes(6, "mender(0, 0)");
        edges.asks(six, "now(2)", 300);
        for (int m = 0; m < 6; m++) {
            six = six.then("set(" + m + ", 2, 9999)");
        }
        edges.asks(six, "now(2)", 59994);
        edges.asks(six, "now(3)", 0);
        Story busy = six.then("draw(7, 1, 4)", "mend(0, 7)", "draw(8, 1, 1)", "mend(5, 8)");
        edges.asks(busy, "now(2)", 59994 - 19);
        edges.asks(busy, "now(3)", 19);
        edges.asks(fresh.fed("map 0 hill to 47").then("map()"), "now(1)", 48);
    }

    // "Of a MENDER ON n YEARS (0 to 60): what 0 AT, 1 PURSE, 2 PAID."
    private static void onIsHeld() {
        for (Story before : new Story[] {in60, Edges.RICH}) {
            edges.range(before, "on(0, #, 0)", 0, 60);
            edges.range(before, "on(0, #, 2)", 0, 60);
            edges.range(before, "on(0, 0, #)", 0, 2);
            edges.range(before, "on(0, 60, #)", 0, 2);
        }
    }

    // "ON: n YEARS go on with all as it is; nothing changes."
    private static void onAsYearsWouldGo() {
        edges.asks(in60, "on(0, 0, 0)", 0);
        edges.asks(in60, "on(0, 0, 1)", 0);
        edges.asks(in60, "on(0, 0, 2)", 0);
        edges.asks(in60, "on(0, 59, 0)", 2);
        edges.asks(in60, "on(0, 60, 0)", 3);
        edges.asks(in60, "on(0, 59, 1)", 59 - 51);
        edges.asks(in60, "on(0, 60, 1)", 1);
        edges.asks(in60, "on(0, 59, 2)", 51);
        edges.asks(in60, "on(0, 60, 2)", 59);
        for (int m = 0; m < 3; m++) {
            for (int what = 0; what < 3; what++) {
                for (int n : new int[] {1, 2, 60}) {
                    long later = Edges.RICH.then("years(" + n + ")").asked("of(" + m + ", " + (what + 1) + ")");
                    edges.asks(Edges.RICH, "on(" + m + ", " + n + ", " + what + ")", later);
                }
                edges.asks(Edges.RICH, "on(" + m + ", 0, " + what + ")", Edges.RICH.asked("of(" + m + ", " + (what + 1) + ")"));
            }
        }
    }

    // STATE is asked of years() alone: ON, the years go on behind 9999.
    private static void onPastTheLastYear() {
        Story last = year9939.then("years(60)", "mender(0, 0)", "draw(20, 1, 4)", "draw(21, 1, 1)", "sheet(0, 8, 3)");
        edges.asks(last, "on(0, 60, 2)", 19);
        edges.asks(last, "wrong(60)", 0);
        edges.asks(last, "done()", 2);
        edges.asks(last, "when(21)", 2);
        edges.asks(last, "kind(0, 60)", 0);
        edges.asks(last, "needed(60)", 0);
        edges.asks(last, "purse(0, 2)", 17);
        edges.answers(last, "book(0)", 3);
        edges.answers(last.then("book(0)"), "write(0, 2, 9)", 0);
        edges.answers(last.then("book(0)"), "now(0)", 9999);
    }

    private static void wrongIsHeld() {
        edges.range(fresh, "wrong(#)", 0, 60);
        edges.range(Edges.RICH, "wrong(#)", 0, 60);
        edges.asks(in60, "wrong(0)", 4);
        edges.asks(in60, "wrong(59)", 1);
        edges.asks(in60, "wrong(60)", 0);
        edges.asks(in61, "wrong(60)", 1);
        for (int n : new int[] {1, 2, 3, 60}) {
            edges.asks(Edges.RICH, "wrong(" + n + ")", Edges.RICH.asked("years(" + n + ")"));
        }
    }

    // "In how many YEARS (0 to 60) ON no CELL is WRONG. NONE."
    private static void doneInNoneToSixty() {
        edges.asks(fresh, "done()", 0);
        edges.asks(fresh.then("mender(0, 0)"), "done()", 0);
        edges.asks(fresh.then("mender(0, 0)", "draw(47, 1, 1)"), "done()", 1);
        edges.asks(in60, "done()", 60);
        edges.refused(in61, "done()", Edges.NONE);
        edges.asks(in61.then("years(1)"), "done()", 60);
        edges.refused(fresh.then("draw(47, 1, 1)"), "done()", Edges.NONE);
    }

    private static void whenIsHeld() {
        edges.range(fresh, "when(#)", 0, 47);
        edges.range(in60, "when(#)", 0, 47);
        // BEYOND ahead of NONE.
        edges.beyond(fresh.fed("map 0 hill to 47").then("map()"), "when(#)", 0, 47);
    }

    // "In how many YEARS (0 to 60) ON a CELL isn't WRONG first. BEYOND. NONE."
    private static void whenInNoneToSixty() {
        edges.asks(in60, "when(47)", 0);
        edges.asks(in60, "when(0)", 18);
        edges.asks(in60, "when(3)", 60);
        edges.refused(in61, "when(5)", Edges.NONE);
        edges.asks(in61, "when(4)", 56);
        edges.asks(in61.then("years(1)"), "when(5)", 60);
        Story nobody = fresh.fed("map 0 hill to 47").then("map()");
        edges.refused(nobody, "when(0)", Edges.NONE);
        edges.refused(nobody, "when(47)", Edges.NONE);
        // Right now, though the village beside will make it wrong: it isn't wrong first in 0 years.
        Story village = fresh.then("mender(0, 0)", "draw(47, 1, 3)");
        edges.asks(village, "when(46)", 0);
        edges.asks(village, "wrong(1)", 2);
        // Made right by a village beside in a year, and wrong again by water there later.
        Story again = fresh.then("mender(0, 20)", "draw(20, 1, 3)", "draw(21, 1, 5)", "draw(12, 0, 2)", "draw(12, 1, 2)",
            "draw(19, 0, 2)", "draw(19, 1, 2)", "draw(28, 0, 2)", "draw(28, 1, 2)", "draw(22, 1, 1)");
        edges.asks(again, "when(21)", 1);
        edges.answers(again.then("years(1)"), "cell(21, 2)", 0);
        edges.answers(again.then("years(2)"), "cell(21, 2)", 1);
    }
}
