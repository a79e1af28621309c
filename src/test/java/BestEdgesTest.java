/** Boundaries of what is best: none, one, two; least of several; how many years and purses (promises 19 to 26). */
public final class BestEdgesTest {
    private static final Edges edges = new Edges("BestEdgesTest");
    private static final Story fresh = new Story();
    private static final Story one = fresh.then("mender(0, 20)");

    private BestEdgesTest() {
    }

    public static void main(String[] args) {
        noneIfNothingIsWrong();
        beyondAheadOfNone();
        theOnlyOne();
        cheapestOfSeveral();
        bestOfSeveral();
        noTwoCanBe();
        twoThatCanBe();
        twoOfSeveral();
        mendedBesideEachCell();
        kindIsHeld();
        kindOfSeveral();
        purseIsHeld();
        purseFromNoneTo255();
        purseAsFew();
        neededIsHeld();
        neededOfSeveral();
        wayIsHeld();
        wayOnDryLand();
        wayOverWater();
        wayByRoads();
        edges.end();
    }

    // "NONE: no CELL is WRONG."
    private static void noneIfNothingIsWrong() {
        for (int kind = 0; kind < 6; kind++) {
            Story none = fresh.then("mender(" + kind + ", 20)");
            edges.refused(none, "cheapest(0)", Edges.NONE);
            edges.refused(none, "best(0)", Edges.NONE);
            edges.refused(none, "two(0)", Edges.NONE);
            edges.refused(none, "left(0)", Edges.NONE);
            Story righted = none.then("draw(47, 1, 2)", "draw(47, 0, 2)");
            edges.refused(righted, "cheapest(0)", Edges.NONE);
            edges.refused(righted, "best(0)", Edges.NONE);
        }
    }

    private static void beyondAheadOfNone() {
        for (String form : new String[] {"cheapest(#)", "best(#)", "two(#)", "left(#)"}) {
            edges.beyond(one, form, 0, 0);
            edges.refused(fresh, Edges.put(form, 0), Edges.BEYOND);
        }
    }

    private static void theOnlyOne() {
        for (int kind = 0; kind < 6; kind++) {
            for (int cell : new int[] {0, 47}) {
                Story only = fresh.then("mender(" + kind + ", 20)", "set(0, 2, 0)", "draw(" + cell + ", 1, 4)");
                edges.asks(only, "cheapest(0)", cell);
                edges.asks(only, "best(0)", cell);
                edges.refused(only, "two(0)", Edges.NONE);
                edges.refused(only, "left(0)", Edges.NONE);
            }
        }
    }

    // "of least COST for a MENDER; of several the least."
    private static void cheapestOfSeveral() {
        Story ends = one.then("draw(0, 1, 4)", "draw(47, 1, 4)");
        edges.asks(ends, "cheapest(0)", 0);
        edges.asks(ends.then("draw(47, 1, 2)"), "cheapest(0)", 47);
        edges.asks(ends.then("draw(0, 1, 5)"), "cheapest(0)", 47);
        edges.asks(ends.then("draw(46, 1, 4)"), "cheapest(0)", 0);
        // Clerks and bribers pay for what is wrong beside, too.
        Story beside = one.then("draw(0, 1, 4)", "draw(1, 1, 4)", "draw(47, 1, 4)");
        edges.asks(beside.then("turn(0, 2)"), "cheapest(0)", 47);
        edges.asks(beside.then("turn(0, 3)"), "cheapest(0)", 47);
        edges.asks(beside.then("turn(0, 5)"), "cheapest(0)", 47);
        edges.asks(beside.then("turn(0, 5)", "set(0, 2, 9999)"), "cheapest(0)", 0);
        edges.asks(beside.then("turn(0, 1)"), "cheapest(0)", 0);
    }

    // "leaves fewest CELLS WRONG; of several the least."
    private static void bestOfSeveral() {
        Story ends = one.then("draw(0, 1, 4)", "draw(47, 1, 4)");
        edges.asks(ends, "best(0)", 0);
        edges.asks(ends.then("draw(0, 1, 3)"), "best(0)", 47);
        edges.asks(ends.then("draw(0, 1, 3)", "turn(0, 3)"), "best(0)", 0);
        Story villages = one.then("draw(9, 1, 3)", "draw(0, 1, 3)", "draw(47, 1, 3)");
        edges.asks(villages, "best(0)", 0);
        edges.asks(villages.then("draw(46, 0, 2)", "draw(46, 1, 2)"), "best(0)", 47);
        edges.asks(one.then("draw(20, 1, 3)"), "best(0)", 20);
        edges.asks(fresh.fed("map 0 hill to 47").then("map()", "mender(0, 47)"), "best(0)", 0);
        // Bribed, a water cell rights no road beside it.
        Story river = one.then("draw(3, 1, 4)", "draw(20, 1, 1)", "draw(21, 0, 5)");
        edges.asks(river, "best(0)", 20);
        edges.asks(river.then("turn(0, 3)"), "best(0)", 3);
    }

    // "NONE: no two can be."
    private static void noTwoCanBe() {
        Story village = one.then("draw(47, 1, 3)");
        Story woods = village.then("draw(39, 0, 2)", "draw(39, 1, 2)", "draw(46, 0, 2)", "draw(46, 1, 2)");
        edges.refused(woods, "two(0)", Edges.NONE);
        edges.refused(woods, "left(0)", Edges.NONE);
        edges.refused(village.then("turn(0, 3)"), "two(0)", Edges.NONE);
        edges.refused(village.then("turn(0, 3)"), "left(0)", Edges.NONE);
        // Water that drowns a road, which was right: then there are two.
        Story water = one.then("draw(0, 1, 1)");
        edges.refused(water, "two(0)", Edges.NONE);
        edges.asks(water.then("draw(1, 0, 5)", "draw(1, 1, 5)"), "two(0)", 1);
        edges.asks(water.then("draw(1, 0, 5)", "draw(1, 1, 5)"), "left(0)", 0);
    }

    private static void twoThatCanBe() {
        Story village = one.then("draw(47, 1, 3)");
        edges.asks(village, "two(0)", 4739);
        edges.asks(village, "left(0)", 1);
        Story onePlain = village.then("draw(39, 0, 2)", "draw(39, 1, 2)");
        edges.asks(onePlain, "two(0)", 4746);
        edges.asks(onePlain, "left(0)", 0);
        Story ends = one.then("draw(0, 1, 4)", "draw(47, 1, 4)");
        edges.asks(ends, "two(0)", 47);
        edges.asks(ends, "left(0)", 0);
        // Each has to be wrong as its turn comes: the water rights the road, but not the other way round.
        Story river = one.then("draw(0, 1, 1)", "draw(1, 0, 5)");
        edges.asks(river, "two(0)", 100);
        edges.asks(river, "left(0)", 0);
        edges.asks(river.then("turn(0, 3)"), "two(0)", 1);
    }

    private static void twoOfSeveral() {
        Story all = fresh.fed("map 0 hill to 47").then("map()", "mender(0, 47)");
        edges.asks(all, "two(0)", 1);
        edges.asks(all, "left(0)", 46);
        Story last = one.then("draw(0, 1, 3)", "draw(45, 1, 4)", "draw(46, 1, 4)", "draw(47, 1, 4)");
        edges.asks(last, "two(0)", 4546);
        edges.asks(last, "left(0)", 2);
        // Even with an empty purse: it is for nothing.
        edges.asks(last.then("set(0, 2, 0)"), "two(0)", 4546);
        // A village can be the better first: the road that it makes was wanted.
        Story wanted = one.then("draw(47, 1, 3)", "draw(46, 1, 5)", "draw(39, 1, 5)", "draw(0, 1, 4)");
        edges.asks(wanted, "two(0)", 47);
        edges.asks(wanted, "left(0)", 0);
    }

    // "MENDED: a CELL as a MENDER mends it .. nothing changes": it spoils those beside that there are.
    private static void mendedBesideEachCell() {
        Story roads = one.fed("land 0 road to 47;map 0 road to 47").then("map()");
        for (int c = 0; c < 48; c++) {
            int there = Long.bitCount(Edges.beside(c));
            int least = Long.numberOfTrailingZeros(Edges.beside(c));
            Story village = one.then("draw(" + c + ", 1, 3)");
            edges.asks(village, "two(0)", 100 * c + least);
            edges.asks(village, "left(0)", there - 1);
            Story water = roads.then("draw(" + c + ", 1, 1)");
            edges.asks(water, "two(0)", 100 * c + least);
            edges.asks(water, "left(0)", there - 1);
            // Two villages in opposite corners leave as many; one that spoils more is the worse one.
            int corner = c == 47 || c == 46 || c == 39 ? 0 : 47;
            Story other = village.then("draw(" + corner + ", 1, 3)");
            edges.asks(other, "best(0)", there > 2 ? corner : Math.min(c, corner));
        }
    }

    // "ON n YEARS (0 to 60)".
    private static void kindIsHeld() {
        edges.range(one, "kind(0, #)", 0, 60);
        edges.range(Edges.RICH, "kind(2, #)", 0, 60);
        edges.refused(one, "kind(1, 61)", Edges.BEYOND);
        // Costs of 59 at an income of 1 take 60 years; a briber pays less.
        Story in60 = fresh.then("mender(0, 0)", "income(1)", "set(0, 2, 0)",
            "draw(0, 1, 5)", "draw(1, 1, 5)", "draw(2, 1, 5)", "draw(3, 1, 2)");
        edges.asks(in60, "kind(0, 59)", 3);
        edges.asks(in60, "kind(0, 60)", 0);
    }

    // "of several the least": each kind can be the one.
    private static void kindOfSeveral() {
        for (int kind = 0; kind < 6; kind++) {
            Story any = fresh.then("mender(" + kind + ", 0)", "draw(20, 1, 3)");
            edges.asks(any, "kind(0, 0)", 0);
            edges.asks(any.then("draw(20, 1, 0)"), "kind(0, 60)", 0);
            edges.asks(any.then("draw(20, 1, 4)"), "kind(0, 1)", 0);
            edges.asks(any.then("draw(20, 1, 1)", "set(0, 2, 2)"), "kind(0, 1)", 1);
            edges.asks(any.then("draw(12, 1, 4)", "draw(21, 1, 4)", "set(0, 1, 20)", "set(0, 2, 11)"), "kind(0, 1)", 2);
            edges.asks(any, "kind(0, 1)", 3);
            edges.asks(any.then("draw(20, 0, 3)", "draw(20, 1, 2)", "set(0, 2, 1)"), "kind(0, 1)", 4);
        }
        // The dearest is a water that rights two roads; the nearest is one hill.
        Story dearest = fresh.then("mender(0, 0)", "draw(0, 1, 4)", "draw(20, 0, 5)", "draw(20, 1, 1)",
            "draw(21, 0, 5)", "draw(28, 0, 5)", "draw(12, 0, 2)", "draw(12, 1, 1)", "draw(19, 0, 2)", "draw(19, 1, 1)");
        edges.asks(dearest, "kind(0, 1)", 5);
        edges.asks(dearest, "of(0, 0)", 0);
        // With all 48 wrong, only a briber's purse is enough.
        Story all = fresh.fed("map 0 hill to 47").then("map()", "mender(0, 47)", "set(0, 2, 12)");
        edges.asks(all, "kind(0, 1)", 3);
        edges.asks(all.then("set(0, 2, 11)"), "kind(0, 1)", 0);
        edges.asks(all.then("set(0, 2, 14)"), "kind(0, 1)", 0);
    }

    // "ON n YEARS (0 to 20)".
    private static void purseIsHeld() {
        Story twenty = one.then("income(0)").fed("land 0 road to 19;map 0 hill to 19").then("map()");
        edges.range(twenty, "purse(0, #)", 0, 20);
        edges.range(Edges.RICH, "purse(2, #)", 0, 20);
        edges.asks(twenty, "purse(0, 0)", 0);
        edges.asks(twenty, "purse(0, 1)", 5);
        edges.asks(twenty, "purse(0, 19)", 95);
        edges.asks(twenty, "purse(0, 20)", 100);
        Story more = twenty.then("draw(47, 1, 1)");
        edges.asks(more, "purse(0, 20)", 100);
        edges.refused(more, "purse(0, 21)", Edges.BEYOND);
    }

    // "The least PURSE (0 to 255)".
    private static void purseFromNoneTo255() {
        Story roads = one.then("income(0)").fed("map 0 road to 14").then("map()");
        edges.asks(roads, "purse(0, 15)", 255);
        edges.asks(roads, "purse(0, 20)", 255);
        edges.asks(roads, "purse(0, 14)", 238);
        // 256 would do for one more, but it isn't asked.
        Story more = roads.then("draw(14, 1, 2)", "draw(46, 1, 1)", "draw(47, 1, 1)", "set(0, 1, 0)");
        edges.asks(more, "purse(0, 20)", 251);
        edges.asks(one, "purse(0, 20)", 0);
        edges.asks(one.then("draw(0, 1, 4)", "income(20)"), "purse(0, 2)", 0);
        edges.asks(one.then("draw(0, 1, 4)", "income(14)"), "purse(0, 2)", 0);
        edges.asks(one.then("draw(0, 1, 4)", "income(13)"), "purse(0, 2)", 1);
        edges.asks(one.then("set(0, 2, 9999)", "draw(0, 1, 4)"), "purse(0, 1)", 14);
    }

    // "lets as few CELLS be WRONG .. as it does with 255": fewer are as few, too.
    private static void purseAsFew() {
        edges.asks(one.then("draw(20, 1, 3)"), "purse(0, 1)", 0);
        // As an insurer goes by its purse: from 10 on it costs 13, and 13 is enough.
        edges.asks(one.then("turn(0, 5)", "draw(20, 1, 4)"), "purse(0, 1)", 13);
    }

    // "ON n YEARS (0 to 60)", "NONE: nobody is there."
    private static void neededIsHeld() {
        edges.range(one, "needed(#)", 0, 60);
        edges.range(Edges.RICH, "needed(#)", 0, 60);
        Story nobody = fresh.then("draw(20, 1, 4)");
        edges.refused(nobody, "needed(0)", Edges.NONE);
        edges.refused(nobody, "needed(60)", Edges.NONE);
        edges.asks(nobody.then("mender(0, 0)"), "needed(60)", 0);
        // BEYOND ahead of NONE.
        edges.beyond(nobody, "needed(#)", 0, 60);
    }

    // "most CELLS are WRONG .. of several the least".
    private static void neededOfSeveral() {
        Story six = fresh.thenTimes(6, "mender(0, 20)").then("income(0)", "draw(0, 1, 4)");
        edges.asks(six, "needed(0)", 0);
        edges.asks(six, "needed(60)", 0);
        Story poor = six;
        for (int m = 0; m < 5; m++) {
            poor = poor.then("set(" + m + ", 2, 13)");
        }
        edges.asks(poor, "needed(0)", 0);
        edges.asks(poor, "needed(1)", 5);
        edges.asks(poor, "needed(60)", 5);
        edges.asks(poor.then("set(4, 2, 14)"), "needed(60)", 0);
        edges.asks(poor.then("set(5, 2, 13)", "set(3, 2, 14)"), "needed(60)", 3);
        // One who has 1 more is done in 59 years without the other, who would need 60.
        Story two = fresh.then("mender(0, 0)", "mender(0, 0)", "income(1)", "set(0, 2, 0)", "set(1, 2, 1)",
            "draw(0, 1, 5)", "draw(1, 1, 5)", "draw(2, 1, 5)", "draw(3, 1, 2)");
        edges.asks(two, "needed(59)", 1);
        edges.asks(two, "needed(60)", 0);
    }

    private static void wayIsHeld() {
        Story dry = fresh.fed("land 0 road to 47").then("map()");
        for (int what = 0; what < 2; what++) {
            edges.range(dry, "way(#, 20, " + what + ")", 0, 47);
            edges.range(dry, "way(20, #, " + what + ")", 0, 47);
        }
        edges.range(dry, "way(0, 47, #)", 0, 1);
        // BEYOND ahead of NONE.
        Story wet = fresh.fed("land 0 water to 47").then("map()");
        edges.beyond(wet, "way(#, 20, 0)", 0, 47);
        edges.beyond(wet, "way(20, #, 1)", 0, 47);
        edges.beyond(wet, "way(20, 21, #)", 0, 1);
    }

    // "The fewest steps .. each to a CELL BESIDE": rows do not run on into each other.
    private static void wayOnDryLand() {
        for (int from = 0; from < 48; from++) {
            TrueMaps x = new TrueMaps();
            for (int to = 0; to < 48; to++) {
                edges.same("way from " + from + " to " + to, x.way(from, to, 0), Edges.apart(from, to));
                edges.same("no road from " + from + " to " + to, x.way(from, to, 1), Edges.NONE);
            }
        }
    }

    // "over CELLS that are no water (what 0) .. both, too, by THE LAND. .. NONE."
    private static void wayOverWater() {
        for (int sort = 0; sort < 6; sort++) {
            String due = "draw(1, 0, " + sort + ")";
            Story row = fresh.fed("land 0 water to 47;land 0 plain;land 2 plain").then("map()", due);
            wayOrNone(row, "way(0, 2, 0)", sort != 1, 2);
            wayOrNone(row, "way(1, 1, 0)", sort != 1, 0);
            wayOrNone(row, "way(1, 2, 0)", sort != 1, 1);
            wayOrNone(row, "way(2, 1, 0)", sort != 1, 1);
            edges.asks(row, "way(0, 0, 0)", 0);
        }
        Story mapped = fresh.fed("map 0 water to 47").then("map()");
        edges.asks(mapped, "way(0, 47, 0)", 12);
        Story bend = fresh.fed("land 8 water to 14;land 25 water to 31;land 40 water to 46").then("map()");
        edges.asks(bend, "way(0, 47, 0)", 26);
        edges.refused(bend.then("draw(15, 0, 1)"), "way(0, 47, 0)", Edges.NONE);
        edges.refused(bend.then("draw(0, 0, 1)"), "way(0, 47, 0)", Edges.NONE);
        edges.refused(bend.then("draw(47, 0, 1)"), "way(0, 47, 0)", Edges.NONE);
    }

    // "or roads and villages alone (1), both, too".
    private static void wayByRoads() {
        for (int sort = 0; sort < 6; sort++) {
            Story row = fresh.then("draw(45, 0, 5)", "draw(47, 0, 3)", "draw(46, 0, " + sort + ")");
            boolean open = sort == 3 || sort == 5;
            wayOrNone(row, "way(45, 47, 1)", open, 2);
            wayOrNone(row, "way(46, 46, 1)", open, 0);
            wayOrNone(row, "way(46, 47, 1)", open, 1);
            wayOrNone(row, "way(45, 46, 1)", open, 1);
            edges.asks(row, "way(47, 47, 1)", 0);
            edges.refused(row, "way(45, 44, 1)", Edges.NONE);
        }
    }

    private static void wayOrNone(Story before, String call, boolean open, int steps) {
        if (open) {
            edges.asks(before, call, steps);
        } else {
            edges.refused(before, call, Edges.NONE);
        }
    }
}
