import java.util.List;

/** Boundaries of images, counts and status (promises 36 to 40). */
public final class ImageEdgesTest {
    private static final Edges edges = new Edges("ImageEdgesTest");
    private static final Story fresh = new Story();
    private static final Story six = fresh.thenTimes(6, "mender(0, 0)");

    private ImageEdgesTest() {
    }

    public static void main(String[] args) {
        undoOfNothing();
        imageOfAnEmptyLand();
        imageOfAllThatIs();
        imageIsTheLatest();
        imageLeavesTapeAndSheets();
        undoStays();
        tearSomethingAndNothing();
        countIsHeld();
        countNoneAndAll();
        statusIsHeld();
        statusCountsFromThenOn();
        statusOfEachFinding();
        statusOfNoFinding();
        undoTakesNoneBack();
        askingChangesNothing();
        edges.end();
    }

    // "NONE: nothing is kept."
    private static void undoOfNothing() {
        edges.refused(fresh, "undo()", Edges.NONE);
        edges.refused(six, "undo()", Edges.NONE);
        edges.refused(Edges.RICH.then("tear()"), "undo()", Edges.NONE);
        edges.answers(fresh, "image()", 1);
        edges.answers(fresh.then("image()"), "undo()", 0);
    }

    private static void imageOfAnEmptyLand() {
        Story back = fresh.then("image()").thenTimes(6, "mender(5, 47)")
            .then("draw(0, 0, 5)", "draw(47, 1, 5)", "years(60)", "income(20)", "undo()");
        edges.same("undo", back.answer(), 0);
        edges.holds("all is as it was" + Edges.firstUnlike(fresh.present(), back.present()),
            back.present().equals(fresh.present()));
        edges.refused(back, "of(0, 0)", Edges.BEYOND);
        edges.answers(back, "mender(0, 0)", 0);
        edges.answers(back.then("mender(0, 0)"), "of(0, 2)", 50);
    }

    // "All that section 1 tells (THE TAPE not) is kept".
    private static void imageOfAllThatIs() {
        Story kept = Edges.RICH.then("wipe()", "mender(4, 0)", "mender(2, 47)", "mender(0, 1)", "image()");
        edges.same("image", kept.answer(), 1);
        Story back = kept.then("draw(0, 0, 5)", "draw(47, 1, 3)", "draw(20, 0, 3)", "income(20)", "set(5, 1, 9)",
            "set(5, 2, 9999)", "turn(5, 3)", "turn(0, 0)", "mend(5, 0)", "years(60)", "undo()");
        edges.same("undo", back.answer(), 6);
        edges.holds("all is as it was" + Edges.firstUnlike(kept.present(), back.present()),
            back.present().equals(kept.present()));
        edges.refused(back, "mender(0, 0)", Edges.FULL);
    }

    // "It becomes what was kept latest".
    private static void imageIsTheLatest() {
        Story two = fresh.then("mender(0, 0)", "image()", "mender(1, 1)", "image()", "mender(2, 2)");
        edges.answers(two, "undo()", 2);
        edges.answers(two.then("undo()"), "undo()", 2);
        edges.answers(two.then("undo()"), "image()", 1);
        edges.refused(two.then("tear()"), "undo()", Edges.NONE);
        edges.answers(two.then("tear()", "image()", "mender(0, 0)"), "undo()", 3);
    }

    private static void imageLeavesTapeAndSheets() {
        Story kept = fresh.fed("income 3").then("sheet(0, 8, 2)", "write(0, 1, 7)", "image()");
        Story later = kept.then("wipe()").fed("income 14").then("sheet(0, 16, 3)", "write(0, 2, 300)", "sheet(1, 8, 1)", "undo()");
        edges.answers(later, "count(1)", 9);
        edges.answers(later.then("map()"), "now(4)", 14);
        edges.answers(later, "write(0, 2, 0)", 300);
        edges.answers(later, "write(0, 1, 0)", 0);
        edges.answers(later, "write(1, 0, 0)", 0);
        // What came by the tape is taken back all the same.
        edges.answers(kept.then("map()", "undo()"), "now(4)", 2);
        edges.answers(kept.then("map()", "undo()"), "count(1)", 0);
    }

    // "(which stays)": neither undo nor what comes after it touches what is kept.
    private static void undoStays() {
        Story back = six.then("draw(0, 1, 4)", "image()", "years(1)", "undo()");
        Story again = back.then("set(0, 2, 9)", "draw(0, 1, 5)", "draw(3, 0, 5)", "income(9)", "years(2)", "turn(3, 3)", "undo()");
        edges.same("undo", again.answer(), 6);
        edges.holds("all is as it was, again" + Edges.firstUnlike(back.present(), again.present()),
            again.present().equals(back.present()));
    }

    // "Nothing is kept: 1 if something was, else 0."
    private static void tearSomethingAndNothing() {
        edges.asks(fresh, "tear()", 0);
        edges.answers(fresh.then("image()"), "tear()", 1);
        edges.answers(fresh.then("image()", "tear()"), "tear()", 0);
        edges.answers(fresh.then("image()", "image()"), "tear()", 1);
        edges.answers(fresh.then("image()", "image()", "tear()"), "tear()", 0);
        edges.answers(fresh.then("image()", "undo()"), "tear()", 1);
        Story torn = Edges.RICH.then("tear()");
        edges.same("tear", torn.answer(), 1);
        edges.holds("tear() changes nothing that is", torn.present().equals(Edges.RICH.present()));
    }

    // "BEYOND: another what."
    private static void countIsHeld() {
        edges.range(fresh, "count(#)", 0, 3);
        edges.range(Edges.RICH, "count(#)", 0, 3);
    }

    private static void countNoneAndAll() {
        edges.asks(six, "count(0)", 6);
        edges.asks(fresh.thenTimes(30, "feed(0, 4)"), "count(1)", 120);
        Story land = fresh.fed("land 0 road to 47").then("map()");
        edges.asks(land, "count(2)", 48);
        edges.asks(land, "count(3)", 0);
        edges.asks(land.then("draw(47, 0, 0)"), "count(2)", 47);
        edges.asks(land.then("draw(0, 0, 0)"), "count(2)", 47);
        Story map = fresh.fed("map 0 water to 47").then("map()");
        edges.asks(map, "count(2)", 0);
        edges.asks(map, "count(3)", 48);
        edges.asks(map.then("draw(47, 1, 0)"), "count(3)", 47);
    }

    // "which -1: all, 0 to 6: BEYOND to SIZE. BEYOND (counted from then on): another one."
    private static void statusIsHeld() {
        edges.range(fresh, "status(#)", -1, 6);
        edges.range(Edges.RICH, "status(#)", -1, 6);
    }

    private static void statusCountsFromThenOn() {
        edges.answers(fresh, "status(7)", Edges.BEYOND);
        edges.answers(fresh.then("status(7)"), "status(0)", 1);
        edges.answers(fresh.then("status(7)"), "status(-1)", 1);
        edges.answers(fresh.then("status(7)", "status(-2)"), "status(0)", 2);
        edges.answers(fresh.then("status(7)", "status(-2)"), "status(-1)", 2);
        edges.answers(fresh.then("status(7)", "status(0)", "status(-1)"), "status(0)", 1);
        edges.answers(fresh.thenTimes(511, "status(7)"), "status(-1)", 511);
    }

    private static void statusOfEachFinding() {
        String[] calls = {"cells(7)", "mender(0, 0)", "as(0, 1)", "undo()", "cost(0, 0)", "lays(0)", "sheet(0, 8, -1)"};
        for (int f = 0; f < 7; f++) {
            for (int times = 1; times <= 2; times++) {
                Story story = six.thenTimes(times, calls[f]);
                edges.same(calls[f], story.answer(), -1000000001L - f);
                for (int which = 0; which < 7; which++) {
                    edges.answers(story, "status(" + which + ")", which == f ? times : 0);
                }
                edges.answers(story, "status(-1)", times);
            }
        }
    }

    // A FAULT is "no finding"; nor is an answer below 0 that is none.
    private static void statusOfNoFinding() {
        edges.answers(fresh.then("map()"), "status(-1)", 0);
        edges.answers(fresh.fed("land 48").then("map()"), "status(-1)", 0);
        edges.answers(fresh.then("mender(0, 0)", "of(0, 4)"), "status(-1)", 0);
        Story low = fresh.then("sheet(0, 64, 1)", "write(0, 0, -1000000001)", "write(0, 0, -1000000007)");
        edges.same("a number like a finding", low.answer(), -1000000001L);
        edges.answers(low, "status(-1)", 0);
    }

    // "(undo() takes none back)".
    private static void undoTakesNoneBack() {
        Story back = fresh.then("cells(7)", "image()", "cells(7)", "lays(0)", "undo()");
        edges.answers(back, "status(-1)", 3);
        edges.answers(back, "status(0)", 2);
        edges.answers(back, "status(5)", 1);
        edges.answers(back.then("tear()", "undo()"), "status(3)", 1);
        edges.answers(back.then("tear()", "undo()"), "status(-1)", 4);
    }

    /** Acts that only tell something: nothing changes, not even status(). */
    private static void askingChangesNothing() {
        List<String> calls = List.of(
            "cell(20, 3)", "cells(0)", "of(0, 4)", "of(1, 5)", "as(0, 1)", "cost(1, 20)", "now(1)", "on(0, 60, 1)",
            "on(2, 3, 0)", "wrong(60)", "wrong(1)", "when(47)", "cheapest(1)", "best(0)", "best(2)", "two(0)", "two(2)",
            "left(0)", "left(2)", "kind(0, 60)", "purse(0, 20)", "needed(60)", "way(0, 6, 0)", "read(0, 0)", "read(2, 1)",
            "count(2)", "status(-1)", "done()");
        for (String call : calls) {
            edges.asks(Edges.RICH, call, Edges.RICH.asked(call));
            edges.holds(call + " is no finding", Edges.RICH.asked(call) > -1000000000L);
        }
    }
}
