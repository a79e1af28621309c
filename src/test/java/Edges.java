import java.util.ArrayList;
import java.util.List;

/** What the tests of boundaries share: both sides of a boundary, and that a refused call changes nothing. */
final class Edges {
    static final long BEYOND = -1000000001L;
    static final long FULL = -1000000002L;
    static final long KIND = -1000000003L;
    static final long NONE = -1000000004L;
    static final long STATE = -1000000005L;
    static final long MISSING = -1000000006L;
    static final long SIZE = -1000000007L;

    static final long ALL_CELLS = (1L << 48) - 1;

    /** Something of everything: wrong cells, menders who paid, years, a tape, sheets, an image, findings. */
    static final Story RICH = new Story(
        "draw(10, 1, 1)", "draw(11, 0, 5)", "draw(2, 0, 5)", "draw(20, 1, 4)", "draw(20, 0, 2)",
        "mender(1, 9)", "mender(5, 47)", "mender(3, 30)", "income(7)",
        "sheet(0, 8, 3)", "write(0, 0, 5)", "write(0, 1, -3)", "write(0, 2, 2)",
        "sheet(1, 16, 40)", "write(1, 0, 4)", "write(1, 39, 300)", "sheet(2, 64, 0)",
        "years(1)", "image()",
        "draw(26, 1, 3)", "draw(47, 0, 5)", "draw(0, 1, 2)", "set(2, 2, 1234)", "turn(0, 4)", "income(9)",
        "years(1)", "draw(5, 0, 2)", "draw(20, 0, 1)", "cells(9)", "cost(0, 6)").fed("income 19");

    private final Due due;

    Edges(String name) {
        due = new Due(name);
    }

    void end() {
        due.end();
    }

    void same(String what, long got, long want) {
        due.same(what, got, want);
    }

    void holds(String what, boolean so) {
        due.holds(what, so);
    }

    void answers(Story before, String call, long want) {
        due.same(call, before.asked(call), want);
    }

    /** The call answers a finding, which status() counts, and nothing else has changed. */
    void refused(Story before, String call, long finding) {
        Story after = before.then(call);
        due.same(call, after.answer(), finding);
        unchanged(call, before, after);
        List<Long> wanted = new ArrayList<>(before.findings());
        int place = (int) (BEYOND - finding) + 1;
        wanted.set(0, wanted.get(0) + 1);
        wanted.set(place, wanted.get(place) + 1);
        due.holds(call + " is counted once: " + after.findings(), after.findings().equals(wanted));
    }

    /** The call answers what is due, and nothing at all has changed. */
    void asks(Story before, String call, long want) {
        Story after = before.then(call);
        due.same(call, after.answer(), want);
        unchanged(call, before, after);
        due.holds(call + " is no finding", after.findings().equals(before.findings()));
    }

    /** The call is allowed: it answers no finding, and status() stays. */
    void allowed(Story before, String call) {
        Story after = before.then(call);
        long answer = after.answer();
        due.holds(call + " is allowed, but answered " + answer, answer > -1000000000L);
        due.holds(call + " is no finding", after.findings().equals(before.findings()));
    }

    /** In a form of a call, # may be from the least to the most; beyond these it is refused. */
    void range(Story before, String form, int least, int most) {
        allowed(before, put(form, least));
        allowed(before, put(form, most));
        beyond(before, form, least, most);
    }

    void beyond(Story before, String form, int least, int most) {
        refused(before, put(form, least - 1), BEYOND);
        refused(before, put(form, most + 1), BEYOND);
        refused(before, put(form, Integer.MIN_VALUE), BEYOND);
        refused(before, put(form, Integer.MAX_VALUE), BEYOND);
    }

    private void unchanged(String call, Story before, Story after) {
        due.holds(call + " changes nothing" + firstUnlike(before.known(), after.known()),
            after.known().equals(before.known()));
    }

    static String firstUnlike(List<String> before, List<String> after) {
        for (int i = 0; i < Math.min(before.size(), after.size()); i++) {
            if (!before.get(i).equals(after.get(i))) {
                return " (was " + before.get(i) + ", is " + after.get(i) + ")";
            }
        }
        return " (" + before.size() + " lines before, " + after.size() + " after)";
    }

    static String put(String form, long value) {
        return form.replace("#", Long.toString(value));
    }

    static int apart(int c, int d) {
        return Math.abs(c / 8 - d / 8) + Math.abs(c % 8 - d % 8);
    }

    static long beside(int cell) {
        long set = 0;
        for (int d = 0; d < 48; d++) {
            if (apart(cell, d) == 1) {
                set |= 1L << d;
            }
        }
        return set;
    }
}
