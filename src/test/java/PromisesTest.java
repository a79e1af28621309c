/** Each promise of the document by itself: ordinary inputs, the edges it names, wrong inputs. */
public final class PromisesTest {
    private static final int BEYOND = -1000000001;
    private static final int FULL = -1000000002;
    private static final int KIND = -1000000003;
    private static final int NONE = -1000000004;
    private static final int STATE = -1000000005;
    private static final int MISSING = -1000000006;
    private static final int SIZE = -1000000007;

    private static final int PLAIN = 0;
    private static final int WATER = 1;
    private static final int WOOD = 2;
    private static final int VILLAGE = 3;
    private static final int HILL = 4;
    private static final int ROAD = 5;

    private static final Due due = new Due("PromisesTest");

    private PromisesTest() {
    }

    public static void main(String[] args) {
        newObject();
        draw();
        cell();
        cells();
        income();
        mender();
        of();
        set();
        turn();
        as();
        cost();
        mend();
        mendSpoilsBeside();
        years();
        yearsInOrder();
        now();
        on();
        wrong();
        done();
        when();
        cheapest();
        best();
        two();
        left();
        kind();
        purse();
        needed();
        way();
        feed();
        wipe();
        map();
        mapFaults();
        mapOfSeven();
        sheet();
        write();
        copy();
        lays();
        book();
        read();
        image();
        undo();
        tear();
        count();
        status();
        firstCell();
        allCells();
        fullTape();
        due.end();
    }

    private static void feedText(TrueMaps x, String text) {
        for (int i = 0; i < text.length(); i += 4) {
            int n = Math.min(4, text.length() - i);
            int bytes = 0;
            for (int k = 0; k < n; k++) {
                bytes = bytes << 8 | text.charAt(i + k);
            }
            x.feed(bytes, n);
        }
    }

    private static int mapOf(TrueMaps x, String text) {
        feedText(x, text);
        return x.map();
    }

    private static TrueMaps withMender(int kind, int cell) {
        TrueMaps x = new TrueMaps();
        x.mender(kind, cell);
        return x;
    }

    // Promise 1
    private static void newObject() {
        TrueMaps x = new TrueMaps();
        due.same("new cells(0)", x.cells(0), 0);
        due.same("new cells(1)", x.cells(1), (1L << 48) - 1);
        for (int c = 0; c < 48; c++) {
            due.same("new cell 0", x.cell(c, 0), 0);
            due.same("new cell 1", x.cell(c, 1), 0);
        }
        due.same("new count(0)", x.count(0), 0);
        due.same("new count(1)", x.count(1), 0);
        due.same("new now(0)", x.now(0), 0);
        due.same("new now(4)", x.now(4), 2);
        due.same("new tear", x.tear(), 0);
        due.same("new status", x.status(-1), 0);
        for (int s = 0; s < 4; s++) {
            due.same("new book", x.book(s), MISSING);
        }
    }

    // Promise 2
    private static void draw() {
        TrueMaps x = new TrueMaps();
        due.same("draw land", x.draw(0, 0, ROAD), 0);
        due.same("draw land again", x.draw(0, 0, HILL), ROAD);
        due.same("draw map", x.draw(0, 1, WOOD), 0);
        due.same("draw last", x.draw(47, 1, WATER), 0);
        due.same("land drawn", x.cell(0, 0), HILL);
        due.same("map drawn", x.cell(0, 1), WOOD);
        due.same("draw -1", x.draw(-1, 0, 0), BEYOND);
        due.same("draw 48", x.draw(48, 0, 0), BEYOND);
        due.same("draw what -1", x.draw(0, -1, 0), BEYOND);
        due.same("draw what 2", x.draw(0, 2, 0), BEYOND);
        due.same("draw sort -1", x.draw(0, 0, -1), BEYOND);
        due.same("draw sort 6", x.draw(0, 0, 6), BEYOND);
        due.same("land stays", x.cell(0, 0), HILL);
        due.same("map stays", x.cell(0, 1), WOOD);
        due.same("wrong by drawing", x.cells(0), 1L | 1L << 47);
        x.draw(0, 1, HILL);
        due.same("right by drawing", x.cells(0), 1L << 47);
    }

    // Promise 3
    private static void cell() {
        TrueMaps x = new TrueMaps();
        x.draw(9, 0, HILL);
        x.draw(1, 1, HILL);
        x.draw(8, 1, HILL);
        x.draw(10, 1, HILL);
        x.draw(17, 1, HILL);
        x.mender(0, 9);
        x.mender(1, 8);
        x.mender(2, 9);
        due.same("cell land", x.cell(9, 0), HILL);
        due.same("cell map", x.cell(9, 1), PLAIN);
        due.same("cell wrong", x.cell(9, 2), 1);
        due.same("cell right", x.cell(18, 2), 0);
        due.same("four beside", x.cell(9, 3), 4);
        due.same("beside a corner", x.cell(0, 3), 2);
        due.same("two beside", x.cell(18, 3), 2);
        due.same("not itself", x.cell(1, 3), 1);
        due.same("menders at", x.cell(9, 4), 5);
        due.same("nobody at", x.cell(0, 4), 0);
        x.draw(16, 1, HILL);
        due.same("rows do not run on", x.cell(15, 3), 0);
        due.same("rows do not run back", x.cell(7, 3), 0);
        due.same("cell -1", x.cell(-1, 0), BEYOND);
        due.same("cell 48", x.cell(48, 0), BEYOND);
        due.same("cell what -1", x.cell(0, -1), BEYOND);
        due.same("cell what 5", x.cell(0, 5), BEYOND);
        due.same("last cell", x.cell(47, 3), 0);
    }

    // Promise 4
    private static void cells() {
        TrueMaps x = new TrueMaps();
        for (int s = 0; s < 6; s++) {
            x.draw(s, 0, s);
            x.draw(47 - s, 1, s);
        }
        due.same("cells wrong", x.cells(0), 0b111110L | 0b11111L << 42);
        due.same("cells plain", x.cells(1), (1L << 48) - 1 & ~0b111110L);
        for (int s = 1; s < 6; s++) {
            due.same("cells of sort", x.cells(s + 1), 1L << s);
        }
        due.same("cells -1", x.cells(-1), BEYOND);
        due.same("cells 7", x.cells(7), BEYOND);
    }

    // Promise 5
    private static void income() {
        TrueMaps x = new TrueMaps();
        due.same("income 0", x.income(0), 2);
        due.same("income 20", x.income(20), 0);
        due.same("income -1", x.income(-1), BEYOND);
        due.same("income 21", x.income(21), BEYOND);
        due.same("income stays", x.now(4), 20);
    }

    // Promise 6
    private static void mender() {
        TrueMaps x = new TrueMaps();
        due.same("mender -1", x.mender(-1, 0), BEYOND);
        due.same("mender kind 6", x.mender(6, 0), BEYOND);
        due.same("mender cell -1", x.mender(0, -1), BEYOND);
        due.same("mender cell 48", x.mender(0, 48), BEYOND);
        for (int m = 0; m < 6; m++) {
            due.same("mender", x.mender(5 - m, 47 - m), m);
        }
        for (int m = 0; m < 6; m++) {
            due.same("its kind", x.of(m, 0), 5 - m);
            due.same("its place", x.of(m, 1), 47 - m);
            due.same("its purse", x.of(m, 2), 50);
            due.same("its paid", x.of(m, 3), 0);
        }
        due.same("mender full", x.mender(0, 0), FULL);
        due.same("mender beyond, though full", x.mender(6, 0), BEYOND);
        due.same("mender beyond, though full", x.mender(0, 48), BEYOND);
        due.same("menders", x.count(0), 6);
    }

    // Promise 7
    private static void of() {
        TrueMaps x = withMender(0, 20);
        x.mender(5, 20);
        due.same("goes for none", x.of(0, 4), -1);
        due.same("cost of none", x.of(0, 5), 0);
        due.same("insurer goes for none", x.of(1, 4), -1);
        x.draw(4, 1, WOOD);
        x.draw(22, 1, WATER);
        x.draw(36, 1, ROAD);
        x.draw(18, 1, WATER);
        due.same("nearest, least of several", x.of(0, 4), 4);
        due.same("its cost", x.of(0, 5), 8);
        due.same("dearest", x.of(1, 4), 36);
        due.same("insurer's cost", x.of(1, 5), 12);
        x.draw(20, 0, HILL);
        due.same("nearest is where one is", x.of(0, 4), 20);
        x.set(1, 2, 9999);
        due.same("all cost 1: the least", x.of(1, 4), 4);
        due.same("1 at least", x.of(1, 5), 1);
        due.same("of nobody", x.of(2, 0), BEYOND);
        due.same("of -1", x.of(-1, 0), BEYOND);
        due.same("of what -1", x.of(0, -1), BEYOND);
        due.same("of what 6", x.of(0, 6), BEYOND);
        for (int k = 0; k < 5; k++) {
            x.turn(0, k);
            x.set(0, 1, 0);
            due.same("all but insurers go for the nearest", x.of(0, 4), 4);
        }
        TrueMaps corner = withMender(3, 0);
        corner.draw(47, 0, ROAD);
        due.same("as far as can be", corner.of(0, 4), 47);
        corner.draw(39, 0, WATER);
        corner.draw(46, 0, WATER);
        due.same("11 apart both", corner.of(0, 4), 39);
    }

    // Promise 8
    private static void set() {
        TrueMaps x = withMender(0, 3);
        due.same("set at", x.set(0, 1, 47), 3);
        due.same("set at again", x.set(0, 1, 0), 47);
        due.same("set purse", x.set(0, 2, 9999), 50);
        due.same("set purse again", x.set(0, 2, 0), 9999);
        due.same("set at 48", x.set(0, 1, 48), BEYOND);
        due.same("set at -1", x.set(0, 1, -1), BEYOND);
        due.same("set purse -1", x.set(0, 2, -1), BEYOND);
        due.same("set purse 10000", x.set(0, 2, 10000), BEYOND);
        due.same("set what 0", x.set(0, 0, 1), BEYOND);
        due.same("set what 3", x.set(0, 3, 1), BEYOND);
        due.same("set nobody", x.set(1, 1, 1), BEYOND);
        due.same("set -1", x.set(-1, 1, 1), BEYOND);
        due.same("at stays", x.of(0, 1), 0);
        due.same("purse stays", x.of(0, 2), 0);
    }

    // Promise 9
    private static void turn() {
        TrueMaps x = withMender(0, 3);
        due.same("turn", x.turn(0, 5), 0);
        due.same("turn back", x.turn(0, 2), 5);
        due.same("turn to the same", x.turn(0, 2), 2);
        due.same("turn to -1", x.turn(0, -1), BEYOND);
        due.same("turn to 6", x.turn(0, 6), BEYOND);
        due.same("turn nobody", x.turn(1, 0), BEYOND);
        due.same("turn -1", x.turn(-1, 0), BEYOND);
        due.same("kind stays", x.of(0, 0), 2);
        due.same("place stays", x.of(0, 1), 3);
    }

    // Promise 10
    private static void as() {
        boolean[][] under = {
            {true, false, false, false, false, false},
            {true, true, false, false, false, false},
            {true, false, true, false, false, false},
            {true, false, false, true, false, false},
            {true, true, false, false, true, false},
            {true, false, true, false, false, true},
        };
        TrueMaps x = withMender(0, 0);
        x.set(0, 2, 77);
        for (int k = 0; k < 6; k++) {
            x.turn(0, k);
            for (int above = 0; above < 6; above++) {
                due.same(k + " as " + above, x.as(0, above), under[k][above] ? 77 : KIND);
            }
        }
        due.same("as nobody", x.as(1, 0), BEYOND);
        due.same("as kind 6", x.as(0, 6), BEYOND);
        due.same("as kind -1", x.as(0, -1), BEYOND);
    }

    // Promise 11
    private static void cost() {
        TrueMaps x = new TrueMaps();
        for (int k = 0; k < 6; k++) {
            x.mender(k, 0);
        }
        x.draw(9, 0, VILLAGE);
        x.draw(9, 1, WATER);
        x.draw(8, 1, ROAD);
        x.draw(10, 1, ROAD);
        costs(x, 9, 8, 4, 10, 12, 1, 5);
        x.draw(20, 0, WATER);
        x.draw(20, 1, WOOD);
        costs(x, 20, 5, 2, 5, 8, 2, 1);
        x.draw(30, 0, ROAD);
        x.draw(30, 1, VILLAGE);
        costs(x, 30, 8, 8, 8, 8, 3, 3);
        x.draw(40, 0, HILL);
        costs(x, 40, 14, 14, 14, 8, 14, 9);
        costs(x, 8, 17, 17, 18, 10, 17, 13);
        x.set(5, 2, 19);
        due.same("a tenth is cut", x.cost(5, 40), 13);
        x.set(5, 2, 140);
        due.same("1 at least", x.cost(5, 40), 1);
        due.same("cost of right", x.cost(0, 0), STATE);
        due.same("cost for nobody", x.cost(6, 9), BEYOND);
        due.same("cost for -1", x.cost(-1, 9), BEYOND);
        due.same("cost of 48", x.cost(0, 48), BEYOND);
        due.same("cost of -1", x.cost(0, -1), BEYOND);
    }

    private static void costs(TrueMaps x, int cell, int... wanted) {
        for (int k = 0; k < 6; k++) {
            due.same("cost of " + cell + " for " + k, x.cost(k, cell), wanted[k]);
        }
    }

    // Promise 12
    private static void mend() {
        TrueMaps x = withMender(0, 5);
        x.mender(3, 6);
        x.draw(40, 1, WOOD);
        x.draw(20, 0, HILL);
        due.same("mend", x.mend(0, 40), 1);
        due.same("land as map", x.cell(40, 0), WOOD);
        due.same("map stays", x.cell(40, 1), WOOD);
        due.same("at it", x.of(0, 1), 40);
        due.same("purse less", x.of(0, 2), 42);
        due.same("paid more", x.of(0, 3), 8);
        due.same("mend what is right", x.mend(0, 40), STATE);
        x.set(1, 2, 7);
        due.same("too poor", x.mend(1, 20), STATE);
        due.same("nothing changed", x.of(1, 1), 6);
        x.set(1, 2, 8);
        due.same("just enough", x.mend(1, 20), 0);
        due.same("map as land", x.cell(20, 1), HILL);
        due.same("land stays", x.cell(20, 0), HILL);
        due.same("purse is 0", x.of(1, 2), 0);
        due.same("briber at it", x.of(1, 1), 20);
        due.same("mend for nobody", x.mend(2, 0), BEYOND);
        due.same("mend for -1", x.mend(-1, 0), BEYOND);
        due.same("mend 48", x.mend(0, 48), BEYOND);
        due.same("mend -1", x.mend(0, -1), BEYOND);
    }

    private static void mendSpoilsBeside() {
        TrueMaps x = withMender(0, 0);
        x.draw(9, 1, VILLAGE);
        x.draw(1, 0, WOOD);
        x.draw(1, 1, WOOD);
        x.draw(10, 1, ROAD);
        due.same("village makes roads", x.mend(0, 9), 2);
        due.same("wood stays", x.cell(1, 0), WOOD);
        due.same("roads", x.cells(6), 1L << 8 | 1L << 10 | 1L << 17);
        due.same("wrong beside", x.cells(0), 1L << 8 | 1L << 17);
        x.draw(9, 1, WATER);
        x.set(0, 2, 9999);
        due.same("water drowns roads", x.mend(0, 9), 1);
        due.same("no roads", x.cells(6), 0);
        due.same("made wrong beside", x.cells(0), 1L << 10);

        TrueMaps corner = withMender(0, 0);
        corner.draw(7, 1, VILLAGE);
        corner.draw(40, 1, VILLAGE);
        corner.mend(0, 7);
        due.same("corner right above", corner.cells(6), 1L << 6 | 1L << 15);
        corner.mend(0, 40);
        due.same("corner left below", corner.cells(6), 1L << 6 | 1L << 15 | 1L << 32 | 1L << 41);

        TrueMaps briber = withMender(3, 0);
        briber.draw(9, 0, VILLAGE);
        briber.draw(20, 0, WATER);
        briber.draw(21, 0, ROAD);
        briber.draw(21, 1, ROAD);
        due.same("briber", briber.mend(0, 9), 1);
        due.same("briber makes no roads", briber.cells(6), 1L << 21);
        due.same("briber", briber.mend(0, 20), 0);
        due.same("briber drowns no roads", briber.cells(6), 1L << 21);

        paidIsHeld();
    }

    private static void paidIsHeld() {
        TrueMaps x = withMender(0, 0);
        x.income(0);
        x.sheet(0, 8, 40);
        x.sheet(1, 8, 40);
        for (int i = 0; i < 40; i++) {
            x.write(1, i, ROAD);
        }
        for (int round = 0; round < 147; round++) {
            if (round % 14 == 0) {
                x.set(0, 2, 9999);
            }
            x.lays(1 - round % 2);
            x.years(40);
        }
        due.same("paid adds up", x.of(0, 3), 147 * 40 * 17);
        x.draw(47, 1, ROAD);
        x.draw(46, 1, HILL);
        x.draw(45, 1, WOOD);
        due.same("years hold it", x.on(0, 2, 2), 99991);
        due.same("years hold it", x.on(0, 3, 2), 99999);
        x.mend(0, 47);
        x.mend(0, 46);
        due.same("below", x.of(0, 3), 99991);
        x.mend(0, 45);
        due.same("just there", x.of(0, 3), 99999);
        x.draw(44, 1, WOOD);
        x.mend(0, 44);
        due.same("held", x.of(0, 3), 99999);
    }

    // Promise 13
    private static void years() {
        TrueMaps x = withMender(0, 0);
        due.same("a year with nothing wrong", x.years(1), 0);
        due.same("no income", x.of(0, 2), 50);
        x.draw(47, 1, ROAD);
        x.set(0, 2, 16);
        due.same("too poor", x.years(1), 1);
        due.same("income though", x.of(0, 2), 18);
        due.same("stays where it is", x.of(0, 1), 0);
        due.same("paid", x.years(1), 0);
        due.same("cost less, income more", x.of(0, 2), 3);
        due.same("paid more", x.of(0, 3), 17);
        due.same("went there", x.of(0, 1), 47);
        x.draw(0, 1, ROAD);
        x.income(20);
        x.set(0, 2, 9999);
        x.years(1);
        due.same("purse to 9999", x.of(0, 2), 9999);
        due.same("years 0", x.years(0), BEYOND);
        due.same("years 61", x.years(61), BEYOND);
        due.same("years -1", x.years(-1), BEYOND);
        due.same("year", x.now(0), 4);
        due.same("years 60", x.years(60), 0);
        due.same("year", x.now(0), 64);
        for (int i = 0; i < 165; i++) {
            x.years(60);
        }
        due.same("year", x.now(0), 9964);
        due.same("too far", x.years(36), STATE);
        due.same("to the last", x.years(35), 0);
        due.same("year", x.now(0), 9999);
        due.same("no more", x.years(1), STATE);
        due.same("beyond first", x.years(0), BEYOND);
        x.draw(3, 1, WOOD);
        due.same("on goes on all the same", x.wrong(60), 0);
    }

    private static void yearsInOrder() {
        TrueMaps x = withMender(0, 0);
        x.mender(0, 0);
        x.mender(3, 0);
        x.draw(1, 1, VILLAGE);
        due.same("by what is so then", x.years(1), 1);
        due.same("first makes the village", x.cell(1, 0), VILLAGE);
        due.same("second unmakes a road", x.cell(0, 0), PLAIN);
        due.same("third bribes for a road", x.cell(2, 1), ROAD);
        due.same("first at", x.of(0, 1), 1);
        due.same("second at", x.of(1, 1), 0);
        due.same("third at", x.of(2, 1), 2);
        due.same("first has", x.of(0, 2), 41);
        due.same("second has", x.of(1, 2), 35);
        due.same("third has", x.of(2, 2), 44);
        due.same("one is left", x.cells(0), 1L << 9);
        due.same("the last", x.years(1), 0);
        due.same("only the first worked", x.of(0, 2), 26);
        due.same("no income for those behind", x.of(1, 2), 35);
    }

    // Promise 14
    private static void now() {
        TrueMaps x = withMender(0, 0);
        x.mender(1, 0);
        x.draw(1, 1, WATER);
        x.draw(2, 1, HILL);
        x.set(1, 2, 200);
        due.same("now year", x.now(0), 0);
        due.same("now wrong", x.now(1), 2);
        due.same("now purses", x.now(2), 250);
        due.same("now paid", x.now(3), 0);
        due.same("now income", x.now(4), 2);
        x.mend(0, 1);
        x.mend(1, 2);
        due.same("now wrong", x.now(1), 0);
        due.same("now purses", x.now(2), 231);
        due.same("now paid", x.now(3), 19);
        for (int m = 2; m < 6; m++) {
            x.mender(0, 0);
        }
        due.same("now purses of six", x.now(2), 431);
        due.same("now paid of six", x.now(3), 19);
        due.same("now -1", x.now(-1), BEYOND);
        due.same("now 5", x.now(5), BEYOND);
    }

    // Promise 15
    private static void on() {
        TrueMaps x = withMender(0, 0);
        x.draw(3, 1, WOOD);
        x.draw(11, 1, HILL);
        due.same("on 0 at", x.on(0, 0, 0), 0);
        due.same("on 0 purse", x.on(0, 0, 1), 50);
        due.same("on 0 paid", x.on(0, 0, 2), 0);
        due.same("on 1 at", x.on(0, 1, 0), 3);
        due.same("on 1 purse", x.on(0, 1, 1), 44);
        due.same("on 1 paid", x.on(0, 1, 2), 8);
        due.same("on 2 at", x.on(0, 2, 0), 11);
        due.same("on 60 purse", x.on(0, 60, 1), 32);
        due.same("on 60 paid", x.on(0, 60, 2), 22);
        due.same("nothing changes", x.cells(0), 1L << 3 | 1L << 11);
        due.same("nor the year", x.now(0), 0);
        due.same("nor the purse", x.of(0, 2), 50);
        due.same("on 61", x.on(0, 61, 0), BEYOND);
        due.same("on -1", x.on(0, -1, 0), BEYOND);
        due.same("on what 3", x.on(0, 0, 3), BEYOND);
        due.same("on what -1", x.on(0, 0, -1), BEYOND);
        due.same("on nobody", x.on(1, 0, 0), BEYOND);
        due.same("on nobody", x.on(-1, 0, 0), BEYOND);
    }

    // Promise 16
    private static void wrong() {
        TrueMaps x = withMender(0, 0);
        x.draw(3, 1, WOOD);
        x.draw(11, 1, VILLAGE);
        due.same("wrong 0", x.wrong(0), 2);
        due.same("wrong 1", x.wrong(1), 1);
        due.same("wrong 2: three plains beside", x.wrong(2), 3);
        due.same("wrong 60", x.wrong(60), 0);
        due.same("wrong -1", x.wrong(-1), BEYOND);
        due.same("wrong 61", x.wrong(61), BEYOND);
        due.same("nothing changes", x.now(1), 2);
    }

    // Promise 17
    private static void done() {
        TrueMaps x = new TrueMaps();
        due.same("done at once", x.done(), 0);
        x.draw(47, 1, ROAD);
        due.same("never by nobody", x.done(), NONE);
        x.mender(0, 0);
        x.set(0, 2, 0);
        x.income(1);
        due.same("17 years to save, then one", x.done(), 18);
        x.income(0);
        due.same("never without income", x.done(), NONE);
        x.set(0, 2, 17);
        due.same("in one", x.done(), 1);
        due.same("nothing changes", x.now(1), 1);
        atTheLastYear();
    }

    private static void atTheLastYear() {
        TrueMaps x = withMender(0, 0);
        x.income(1);
        x.set(0, 2, 0);
        x.draw(0, 1, ROAD);
        x.draw(1, 1, ROAD);
        x.draw(2, 1, ROAD);
        x.draw(3, 1, WOOD);
        due.same("59 years", x.wrong(59), 1);
        due.same("60 years", x.wrong(60), 0);
        due.same("done in 60", x.done(), 60);
        due.same("when in 60", x.when(3), 60);
        x.draw(3, 1, VILLAGE);
        due.same("not done in 60", x.done(), NONE);
        due.same("not in 60", x.when(3), NONE);
    }

    // Promise 18
    private static void when() {
        TrueMaps x = withMender(0, 0);
        x.draw(1, 1, VILLAGE);
        due.same("when right", x.when(0), 0);
        due.same("when mended", x.when(1), 1);
        due.same("when not wrong first", x.when(2), 0);
        x.draw(40, 1, WATER);
        due.same("after the roads, and saving for the last of them", x.when(40), 10);
        x.income(0);
        x.set(0, 2, 0);
        due.same("never", x.when(40), NONE);
        due.same("when -1", x.when(-1), BEYOND);
        due.same("when 48", x.when(48), BEYOND);
    }

    // Promise 19
    private static void cheapest() {
        TrueMaps x = withMender(0, 47);
        due.same("cheapest none", x.cheapest(0), NONE);
        x.draw(47, 1, ROAD);
        x.draw(30, 1, WATER);
        x.draw(20, 1, WATER);
        x.draw(10, 1, WOOD);
        due.same("cheapest, least of several", x.cheapest(0), 20);
        x.turn(0, 3);
        due.same("cheapest for a briber", x.cheapest(0), 10);
        x.turn(0, 4);
        x.draw(40, 0, VILLAGE);
        x.draw(40, 1, WATER);
        due.same("cheapest for a mover", x.cheapest(0), 40);
        due.same("cheapest for nobody", x.cheapest(1), BEYOND);
        due.same("cheapest for -1", x.cheapest(-1), BEYOND);
    }

    // Promise 20
    private static void best() {
        TrueMaps x = withMender(0, 47);
        due.same("best none", x.best(0), NONE);
        x.draw(9, 1, VILLAGE);
        due.same("the only one", x.best(0), 9);
        x.draw(20, 1, HILL);
        due.same("a village leaves more", x.best(0), 20);
        x.turn(0, 3);
        due.same("not for a briber", x.best(0), 9);
        x.turn(0, 0);
        x.draw(30, 1, WATER);
        x.draw(31, 0, ROAD);
        due.same("water rights a road", x.best(0), 30);
        due.same("nothing changes", x.cells(0), 1L << 9 | 1L << 20 | 1L << 30 | 1L << 31);
        due.same("for nothing", x.of(0, 2), 50);
        x.set(0, 2, 0);
        due.same("even with no purse", x.best(0), 30);
        due.same("best for nobody", x.best(1), BEYOND);
        due.same("best for -1", x.best(-1), BEYOND);
    }

    // Promise 21
    private static void two() {
        TrueMaps x = withMender(0, 47);
        due.same("two of none", x.two(0), NONE);
        x.draw(20, 1, HILL);
        due.same("two of one", x.two(0), NONE);
        x.draw(20, 1, VILLAGE);
        due.same("a village makes the second", x.two(0), 2012);
        x.turn(0, 3);
        due.same("not for a briber", x.two(0), NONE);
        x.turn(0, 0);
        x.draw(30, 1, HILL);
        due.same("leaves four either way; the least", x.two(0), 2012);
        x.draw(0, 1, HILL);
        due.same("two hills", x.two(0), 30);
        due.same("nothing changes", x.cells(0), 1L | 1L << 20 | 1L << 30);
        due.same("two for nobody", x.two(1), BEYOND);
        due.same("two for -1", x.two(-1), BEYOND);

        TrueMaps order = withMender(0, 0);
        order.draw(9, 1, VILLAGE);
        order.draw(10, 1, WATER);
        due.same("of 901, 910, 1009 and more the least", order.two(0), 901);
        due.same("left so", order.left(0), 3);

        TrueMaps righted = withMender(0, 0);
        righted.draw(9, 1, WATER);
        righted.draw(10, 0, ROAD);
        due.same("mending the one rights the other", righted.two(0), 1009);
        due.same("left so", righted.left(0), 0);
    }

    // Promise 22
    private static void left() {
        TrueMaps x = withMender(0, 47);
        due.same("left of none", x.left(0), NONE);
        x.draw(20, 1, HILL);
        due.same("left of one", x.left(0), NONE);
        x.draw(0, 1, HILL);
        due.same("left of two", x.left(0), 0);
        x.draw(30, 1, HILL);
        due.same("left of three", x.left(0), 1);
        x.draw(30, 1, VILLAGE);
        x.draw(20, 1, VILLAGE);
        due.same("a village and its roads", x.left(0), 5);
        due.same("nothing changes", x.cells(0), 1L | 1L << 20 | 1L << 30);
        due.same("left for nobody", x.left(1), BEYOND);
        due.same("left for -1", x.left(-1), BEYOND);
    }

    // Promise 23
    private static void kind() {
        TrueMaps x = withMender(5, 0);
        due.same("all alike", x.kind(0, 60), 0);
        x.draw(20, 1, VILLAGE);
        due.same("in no years all alike", x.kind(0, 0), 0);
        due.same("a briber makes no roads", x.kind(0, 1), 3);
        x.draw(20, 1, HILL);
        x.set(0, 2, 8);
        due.same("a briber can pay", x.kind(0, 1), 3);
        x.draw(20, 1, WATER);
        x.set(0, 2, 2);
        due.same("a digger can pay", x.kind(0, 1), 1);
        due.same("kind stays", x.of(0, 0), 5);
        due.same("kind 61", x.kind(0, 61), BEYOND);
        due.same("kind -1", x.kind(0, -1), BEYOND);
        due.same("kind of nobody", x.kind(1, 0), BEYOND);
        due.same("kind of -1", x.kind(-1, 0), BEYOND);
    }

    // Promise 24
    private static void purse() {
        TrueMaps x = withMender(0, 0);
        due.same("nothing to pay", x.purse(0, 20), 0);
        x.draw(20, 1, HILL);
        due.same("in no years", x.purse(0, 0), 0);
        due.same("just the cost", x.purse(0, 1), 14);
        due.same("less by two incomes", x.purse(0, 3), 10);
        x.draw(40, 1, HILL);
        x.income(0);
        due.same("both", x.purse(0, 2), 28);
        for (int c = 0; c < 15; c++) {
            x.draw(c, 1, ROAD);
        }
        due.same("15 roads of 17 are all of 255", x.purse(0, 20), 255);
        due.same("purse stays", x.of(0, 2), 50);
        TrueMaps not256 = withMender(0, 0);
        mapOf(not256, "map 0 road to 13;map 14 wood;map 46 water to 47;income 0");
        due.same("256 would make all true, 255 all but one", not256.purse(0, 20), 251);
        TrueMaps fewer = withMender(0, 0);
        fewer.draw(20, 1, VILLAGE);
        due.same("as few or fewer", fewer.purse(0, 1), 0);
        due.same("purse 21", x.purse(0, 21), BEYOND);
        due.same("purse -1", x.purse(0, -1), BEYOND);
        due.same("purse of nobody", x.purse(1, 0), BEYOND);
        due.same("purse of -1", x.purse(-1, 0), BEYOND);
    }

    // Promise 25
    private static void needed() {
        TrueMaps x = new TrueMaps();
        due.same("nobody is there", x.needed(0), NONE);
        due.same("beyond first", x.needed(61), BEYOND);
        x.mender(0, 0);
        x.mender(0, 0);
        x.mender(0, 0);
        due.same("all alike", x.needed(60), 0);
        x.set(0, 2, 0);
        x.set(1, 2, 0);
        x.draw(20, 1, HILL);
        due.same("who can pay", x.needed(1), 2);
        due.same("in no years all alike", x.needed(0), 0);
        due.same("nothing changes", x.now(1), 1);
        due.same("needed -1", x.needed(-1), BEYOND);
        due.same("needed 61", x.needed(61), BEYOND);
        TrueMaps village = withMender(0, 0);
        village.mender(3, 0);
        village.draw(20, 1, VILLAGE);
        village.set(1, 2, 0);
        village.income(0);
        due.same("a maker of wrong is needed least", village.needed(1), 1);
    }

    // Promise 26
    private static void way() {
        TrueMaps x = new TrueMaps();
        due.same("dry way across", x.way(0, 47, 0), 12);
        due.same("nowhere to go", x.way(5, 5, 0), 0);
        due.same("rows do not run on", x.way(7, 8, 0), 8);
        for (int c = 1; c < 48; c += 8) {
            x.draw(c, 0, WATER);
        }
        due.same("a river", x.way(0, 2, 0), NONE);
        due.same("along it", x.way(0, 40, 0), 5);
        x.draw(41, 0, HILL);
        due.same("round it", x.way(0, 2, 0), 12);
        due.same("from water", x.way(1, 2, 0), NONE);
        due.same("to water", x.way(2, 1, 0), NONE);
        due.same("water to itself", x.way(1, 1, 0), NONE);
        due.same("no road", x.way(0, 0, 1), NONE);
        x.draw(10, 0, ROAD);
        x.draw(11, 0, VILLAGE);
        x.draw(19, 0, ROAD);
        x.draw(10, 1, WATER);
        due.same("over a village", x.way(10, 19, 1), 2);
        due.same("off the road", x.way(10, 12, 1), NONE);
        due.same("onto the road", x.way(12, 10, 1), NONE);
        due.same("way -1", x.way(-1, 0, 0), BEYOND);
        due.same("way 48", x.way(48, 0, 0), BEYOND);
        due.same("way to -1", x.way(0, -1, 0), BEYOND);
        due.same("way to 48", x.way(0, 48, 0), BEYOND);
        due.same("way what -1", x.way(0, 0, -1), BEYOND);
        due.same("way what 2", x.way(0, 0, 2), BEYOND);
        TrueMaps bends = new TrueMaps();
        for (int r = 1; r < 6; r += 2) {
            for (int c = 0; c < 7; c++) {
                bends.draw(8 * r + (r % 4 == 1 ? c : c + 1), 0, WATER);
            }
        }
        due.same("a long way", bends.way(0, 47, 0), 26);
    }

    // Promise 27
    private static void feed() {
        TrueMaps x = new TrueMaps();
        due.same("feed 0", x.feed(1, 0), BEYOND);
        due.same("feed 5", x.feed(1, 5), BEYOND);
        due.same("feed -1", x.feed(1, -1), BEYOND);
        due.same("feed 1", x.feed('i', 1), 1);
        due.same("feed 2", x.feed('n' << 8 | 'c', 2), 3);
        due.same("feed 3, highest first", x.feed('x' << 24 | 'o' << 16 | 'm' << 8 | 'e', 3), 6);
        due.same("feed 4", x.feed(' ' << 24 | ' ' << 16 | '1' << 8 | '7', 4), 10);
        due.same("it reads so", x.map(), 1);
        due.same("it reads so", x.now(4), 17);
        for (int i = 1; i <= 29; i++) {
            due.same("feed", x.feed(0, 4), 4 * i);
        }
        due.same("feed 3 more", x.feed(0, 3), 119);
        due.same("feed full", x.feed(0, 2), FULL);
        due.same("beyond first", x.feed(0, 5), BEYOND);
        due.same("feed the last", x.feed(0, 1), 120);
        due.same("feed full", x.feed(0, 1), FULL);
        due.same("bytes", x.count(1), 120);
    }

    // Promise 28
    private static void wipe() {
        TrueMaps x = new TrueMaps();
        due.same("wipe empty", x.wipe(), 0);
        feedText(x, "income 3");
        due.same("wipe", x.wipe(), 8);
        due.same("wiped", x.count(1), 0);
        feedText(x, "income 4");
        due.same("reads what came later", x.map(), 1);
        due.same("reads what came later", x.now(4), 4);
    }

    // Promise 29
    private static void map() {
        TrueMaps x = new TrueMaps();
        due.same("all of it", mapOf(x, "insurer at 47 purse 9999;land 3 village to 5;map 4 wood;income 20"), 4);
        due.same("tape is empty", x.count(1), 0);
        due.same("kind", x.of(0, 0), 5);
        due.same("at", x.of(0, 1), 47);
        due.same("purse", x.of(0, 2), 9999);
        due.same("villages", x.cells(4), 0b111000);
        due.same("wood by the map", x.cell(4, 1), WOOD);
        due.same("wrong", x.cells(0), 0b111000);
        due.same("income", x.now(4), 20);
        due.same("no purse told", mapOf(x, "briber at 0"), 1);
        due.same("purse at first", x.of(1, 2), 50);
        due.same("no blanks", mapOf(x, "land0water;map0hill to0;mover at1purse0"), 3);
        due.same("water", x.cell(0, 0), WATER);
        due.same("hill", x.cell(0, 1), HILL);
        due.same("mover", x.of(2, 0), 4);
        due.same("purse 0", x.of(2, 2), 0);
        due.same("blanks all over", mapOf(x, "  land  0  plain  ;  income  0  "), 2);
        due.same("zeros ahead", mapOf(x, "land 0000047 road to 0047"), 1);
        due.same("road", x.cell(47, 0), ROAD);
        due.same("later items over earlier", mapOf(x, "map 0 water to 47;map 0 plain to 46"), 2);
        due.same("one water", x.count(3), 1);
        due.same("no finding", x.status(-1), 0);
        String[] kinds = {"mender", "digger", "clerk", "briber", "mover", "insurer"};
        String[] sorts = {"plain", "water", "wood", "village", "hill", "road"};
        for (int i = 0; i < 6; i++) {
            TrueMaps y = new TrueMaps();
            mapOf(y, kinds[i] + " at 7; land 9 " + sorts[i] + ";map 8 " + sorts[i]);
            due.same("kind " + kinds[i], y.of(0, 0), i);
            due.same("sort " + sorts[i], y.cell(9, 0), i);
            due.same("sort " + sorts[i], y.cell(8, 1), i);
        }
    }

    private static void mapFaults() {
        fault("", 0);
        fault("   ", 3);
        fault(";", 0);
        fault("income", 6);
        fault("income ", 7);
        fault("income 21", 7);
        fault("income 20 21", 10);
        fault("income 20;", 10);
        fault("income 20 ; ", 12);
        fault("income 20;;", 10);
        fault("incomes 20", 0);
        fault("Income 20", 0);
        fault("42", 0);
        fault("mender", 6);
        fault("mender 4", 7);
        fault("mender at", 9);
        fault("mender at 48", 10);
        fault("mender at 10000", 10);
        fault("mender at x", 10);
        fault("mender at 4 5", 12);
        fault("mender at 4 purse", 17);
        fault("mender at 4 purse 10000", 18);
        fault("mender at 4 purse 99999999999999999999", 18);
        fault("mender at 4 purse 4294967296", 18);
        fault("mender at 4 purse 7 purse 7", 20);
        fault("mender at 4 to 7", 12);
        fault("mender at 4; menders at 5", 13);
        fault("land", 4);
        fault("land 48 water", 5);
        fault("land water", 5);
        fault("land 4", 6);
        fault("land 4 lake", 7);
        fault("land 4 mender", 7);
        fault("land 4 water to", 15);
        fault("land 4 water to 3", 16);
        fault("land 4 water to 48", 16);
        fault("land 4 water to 7 to 8", 18);
        fault("land 4 water purse 8", 13);
        fault("land 4 water 8", 13);
        fault("land 4;", 6);
        fault("map 4 wood, income 3", 10);
        fault("income\t3", 6);
        fault("income -3", 7);
        fault("land 4 water\n", 12);
        fault("income 3" + (char) 200, 8);
        fault("income 3" + (char) 0, 8);
        fault("water 3", 0);
        fault("xand 3 water", 0);
        fault("landz 3 water", 0);
        fault("alanda 3 water", 0);
        fault("lan 3 water", 0);
        fault("at 3", 0);
        TrueMaps just = new TrueMaps();
        due.same("to itself", mapOf(just, "land 4 water to 4"), 1);
    }

    private static void fault(String text, int place) {
        TrueMaps x = withMender(0, 9);
        x.income(7);
        String ahead = "land 0 road;map 1 road;clerk at 3;income 9;";
        due.same("fault in '" + text + "'", mapOf(x, text), -1 - place);
        due.same("tape empty after '" + text + "'", x.count(1), 0);
        due.same("fault behind items in '" + text + "'", mapOf(x, ahead + text), -1 - ahead.length() - place);
        due.same("nothing changes: land", x.count(2), 0);
        due.same("nothing changes: map", x.count(3), 0);
        due.same("nothing changes: wrong", x.cells(0), 0);
        due.same("nothing changes: menders", x.count(0), 1);
        due.same("nothing changes: income", x.now(4), 7);
        due.same("no finding", x.status(-1), 0);
    }

    private static void mapOfSeven() {
        TrueMaps x = new TrueMaps();
        String five = "mender at 0;mender at 1;mender at 2;mender at 3;mender at 4";
        due.same("five", mapOf(x, five), 5);
        due.same("a sixth and a seventh", mapOf(x, "clerk at 5; mover at 6"), -1 - 12);
        due.same("five still", x.count(0), 5);
        due.same("a sixth", mapOf(x, "clerk at 5"), 1);
        due.same("a seventh, its name first", mapOf(x, "clerk at 99"), -1);
        due.same("others still", mapOf(x, "income 1"), 1);
        StringBuilder most = new StringBuilder();
        for (int i = 0; i < 13; i++) {
            most.append("income 1;");
        }
        most.append("  1");
        due.same("120 bytes", mapOf(x, most.toString()), -1 - 119);
    }

    // Promise 30
    private static void sheet() {
        TrueMaps x = new TrueMaps();
        due.same("sheet 8", x.sheet(0, 8, 40), 40);
        due.same("sheet 16", x.sheet(1, 16, 0), 0);
        due.same("sheet 64", x.sheet(3, 64, 1), 1);
        due.same("empty, not missing", x.write(1, 0, 1), BEYOND);
        due.same("write", x.write(0, 39, 5), 0);
        due.same("anew", x.sheet(0, 16, 40), 40);
        due.same("all 0", x.write(0, 39, 6), 0);
        due.same("less", x.sheet(0, 16, 2), 2);
        due.same("more", x.sheet(0, 16, 40), 40);
        due.same("all 0 again", x.write(0, 39, 6), 0);
        due.same("missing", x.sheet(0, 0, 40), 0);
        due.same("it is", x.write(0, 0, 1), MISSING);
        due.same("sheet -1", x.sheet(-1, 8, 1), BEYOND);
        due.same("sheet 4", x.sheet(4, 8, 1), BEYOND);
        due.same("sheet 4, below 0", x.sheet(4, 8, -1), BEYOND);
        due.same("32 bits", x.sheet(3, 32, 1), BEYOND);
        due.same("32 bits, below 0", x.sheet(3, 32, -1), BEYOND);
        due.same("-8 bits", x.sheet(3, -8, 1), BEYOND);
        due.same("below 0", x.sheet(3, 8, -1), SIZE);
        due.same("below 0 with bits 0", x.sheet(3, 0, -1), SIZE);
        due.same("above 40", x.sheet(3, 8, 41), BEYOND);
        due.same("above 40 with bits 0", x.sheet(3, 0, 41), BEYOND);
        due.same("it stays", x.write(3, 0, 9), 0);
    }

    // Promise 31
    private static void write() {
        TrueMaps x = new TrueMaps();
        due.same("write to none", x.write(4, 0, 1), BEYOND);
        due.same("write to none", x.write(-1, 0, 1), BEYOND);
        due.same("write to missing", x.write(0, 0, 1), MISSING);
        due.same("missing first", x.write(0, 99, 1), MISSING);
        x.sheet(0, 8, 3);
        x.sheet(1, 16, 3);
        x.sheet(2, 64, 3);
        due.same("write 3", x.write(0, 3, 1), BEYOND);
        due.same("write -1", x.write(0, -1, 1), BEYOND);
        long many = 0x123456789ABCDEF0L;
        due.same("write 8", x.write(0, 2, many), 0);
        due.same("write 16", x.write(1, 2, many), 0);
        due.same("write 64", x.write(2, 2, many), 0);
        due.same("lowest 8, with a sign", x.write(0, 2, 0x17FL), (byte) 0xF0);
        due.same("lowest 16, with a sign", x.write(1, 2, 0x17FFFL), (short) 0xDEF0);
        due.same("all 64", x.write(2, 2, -1), many);
        due.same("lowest 8", x.write(0, 2, 0), 0x7F);
        due.same("lowest 16", x.write(1, 2, 0), 0x7FFF);
        due.same("all 64", x.write(2, 2, 0), -1);
        due.same("others stay", x.write(0, 1, 0), 0);
    }

    // Promise 32
    private static void copy() {
        TrueMaps x = new TrueMaps();
        x.sheet(0, 8, 5);
        x.sheet(1, 8, 3);
        x.sheet(2, 16, 5);
        for (int i = 0; i < 5; i++) {
            x.write(0, i, i + 1);
        }
        due.same("copy", x.copy(0, 2, 1, 0, 3), 3);
        row(x, 1, 3, 4, 5);
        x.sheet(1, 8, 3);
        due.same("copy of none", x.copy(0, 5, 1, 3, 0), 0);
        row(x, 1, 0, 0, 0);
        due.same("forth over itself", x.copy(0, 0, 0, 1, 4), 4);
        row(x, 0, 1, 1, 2, 3, 4);
        for (int i = 0; i < 5; i++) {
            x.write(0, i, i + 1);
        }
        due.same("back over itself", x.copy(0, 1, 0, 0, 4), 4);
        row(x, 0, 2, 3, 4, 5, 5);
        due.same("no sheet", x.copy(4, 0, 0, 0, 0), BEYOND);
        due.same("no sheet", x.copy(-1, 0, 0, 0, 0), BEYOND);
        due.same("to no sheet", x.copy(3, 0, 4, 0, 0), BEYOND);
        due.same("to no sheet", x.copy(3, 0, -1, 0, 0), BEYOND);
        due.same("missing", x.copy(3, 0, 0, 0, 0), MISSING);
        due.same("to missing", x.copy(0, 0, 3, 0, 0), MISSING);
        due.same("missing first", x.copy(3, -1, 0, 0, 0), MISSING);
        due.same("other bits", x.copy(0, 0, 2, 0, 1), KIND);
        due.same("other bits first", x.copy(0, -1, 2, 0, 1), KIND);
        due.same("not so many", x.copy(0, 3, 1, 0, 3), BEYOND);
        due.same("not so many there", x.copy(0, 0, 1, 1, 3), BEYOND);
        due.same("from below 0", x.copy(0, -1, 1, 0, 1), BEYOND);
        due.same("to below 0", x.copy(0, 0, 1, -1, 1), BEYOND);
        due.same("n below 0", x.copy(0, 0, 1, 0, -1), BEYOND);
        due.same("from above", x.copy(0, 6, 1, 0, 0), BEYOND);
        due.same("to above", x.copy(0, 0, 1, 4, 0), BEYOND);
        int most = Integer.MAX_VALUE;
        due.same("far above", x.copy(0, most, 1, 0, most), BEYOND);
        due.same("far above", x.copy(0, 1, 1, 1, most), BEYOND);
        due.same("far below", x.copy(0, 0, 1, 0, Integer.MIN_VALUE), BEYOND);
        row(x, 1, 0, 0, 0);
    }

    private static void row(TrueMaps x, int s, long... wanted) {
        for (int i = 0; i < wanted.length; i++) {
            due.same("number " + i + " of " + s, x.write(s, i, 0), wanted[i]);
            x.write(s, i, wanted[i]);
        }
    }

    // Promise 33
    private static void lays() {
        TrueMaps x = new TrueMaps();
        due.same("lays none", x.lays(4), BEYOND);
        due.same("lays none", x.lays(-1), BEYOND);
        due.same("lays missing", x.lays(0), MISSING);
        x.sheet(0, 64, 5);
        x.write(0, 0, 5);
        x.write(0, 1, 6);
        x.write(0, 2, -1);
        x.write(0, 3, 1L << 32);
        x.write(0, 4, 3);
        x.draw(1, 1, HILL);
        x.draw(2, 1, HILL);
        x.draw(3, 1, HILL);
        due.same("lays", x.lays(0), 2);
        due.same("road", x.cell(0, 1), ROAD);
        due.same("left out", x.cell(1, 1), HILL);
        due.same("left out", x.cell(2, 1), HILL);
        due.same("left out", x.cell(3, 1), HILL);
        due.same("village", x.cell(4, 1), VILLAGE);
        due.same("the map alone", x.count(2), 0);
        due.same("wrong", x.cells(0), 0b11111);
        x.sheet(0, 8, 40);
        due.same("all plain", x.lays(0), 40);
        due.same("nothing wrong", x.cells(0), 0);
        x.sheet(0, 8, 0);
        due.same("empty", x.lays(0), 0);
    }

    // Promise 34
    private static void book() {
        TrueMaps x = withMender(0, 0);
        due.same("book none", x.book(4), BEYOND);
        due.same("book none", x.book(-1), BEYOND);
        due.same("book missing", x.book(0), MISSING);
        x.draw(3, 1, WOOD);
        x.draw(11, 1, VILLAGE);
        x.sheet(0, 8, 40);
        due.same("book", x.book(0), 40);
        row(x, 0, 2, 1, 3, 2, 1, 1, 1, 1, 1, 1, 1, 0, 0);
        for (int n = 0; n < 40; n++) {
            due.same("book of " + n, x.write(0, n, 0), x.wrong(n));
        }
        x.sheet(1, 64, 1);
        due.same("book of one", x.book(1), 1);
        row(x, 1, 2);
        x.sheet(1, 16, 0);
        due.same("book of none", x.book(1), 0);
        due.same("nothing changes", x.now(1), 2);
        due.same("nor the year", x.now(0), 0);
    }

    // Promise 35
    private static void read() {
        TrueMaps x = withMender(0, 0);
        due.same("read none", x.read(4, 0), BEYOND);
        due.same("read missing", x.read(0, 0), MISSING);
        due.same("missing first", x.read(0, 9), MISSING);
        x.sheet(0, 8, 0);
        due.same("read nobody", x.read(0, 1), BEYOND);
        due.same("read -1", x.read(0, -1), BEYOND);
        due.same("no numbers: all", x.read(0, 0), 288);
        x.sheet(0, 8, 2);
        due.same("nothing wrong: all", x.read(0, 0), 288);
        x.draw(20, 1, VILLAGE);
        x.write(0, 0, 1);
        x.write(0, 1, 0);
        due.same("only as a briber", x.read(0, 0), 48);
        x.write(0, 1, 4);
        due.same("as all others", x.read(0, 0), 240);
        x.write(0, 0, 2);
        due.same("not so now", x.read(0, 0), 0);
        x.draw(20, 1, PLAIN);
        x.draw(0, 1, VILLAGE);
        x.draw(47, 1, HILL);
        x.write(0, 0, 2);
        x.write(0, 1, 1);
        x.set(0, 2, 14);
        // Bribers pay 8 for either; a hill alone is left by those nearer to it, and the insurer's dearest.
        due.same("by where it is", x.read(0, 0), 48 + 4 * 21 + 48);
        due.same("kind stays", x.of(0, 0), 0);
        due.same("place stays", x.of(0, 1), 0);
    }

    // Promise 36
    private static void image() {
        TrueMaps x = withMender(2, 7);
        due.same("image", x.image(), 1);
        x.turn(0, 1);
        due.same("image again", x.image(), 1);
        x.turn(0, 0);
        x.undo();
        due.same("the latest", x.of(0, 0), 1);
        due.same("tear", x.tear(), 1);
        due.same("only one was kept", x.undo(), NONE);
    }

    // Promise 37
    private static void undo() {
        TrueMaps x = withMender(2, 7);
        due.same("nothing kept", x.undo(), NONE);
        x.draw(9, 0, ROAD);
        x.draw(8, 1, WOOD);
        x.years(1);
        long wrongThen = x.cells(0);
        int purseThen = x.of(0, 2);
        int paidThen = x.of(0, 3);
        int atThen = x.of(0, 1);
        x.image();
        for (int round = 0; round < 2; round++) {
            x.draw(40, 0, HILL);
            x.draw(41, 1, HILL);
            x.income(9);
            x.mender(1, 1);
            x.years(7);
            x.set(0, 2, 1);
            x.set(0, 1, 30);
            x.turn(0, 5);
            feedText(x, "abc");
            x.sheet(round, 8, 4);
            x.write(round, 0, 3);
            due.same("undo", x.undo(), 1);
            due.same("land", x.cell(40, 0), 0);
            due.same("map", x.cell(41, 1), 0);
            due.same("wrong", x.cells(0), wrongThen);
            due.same("income", x.now(4), 2);
            due.same("year", x.now(0), 1);
            due.same("menders", x.count(0), 1);
            due.same("purse", x.of(0, 2), purseThen);
            due.same("paid", x.of(0, 3), paidThen);
            due.same("at", x.of(0, 1), atThen);
            due.same("kind", x.of(0, 0), 2);
            due.same("the tape stays", x.count(1), 3 * (round + 1));
            due.same("sheets stay", x.write(round, 0, 3), 3);
            due.same("findings stay", x.status(-1), 1);
        }
        x.mender(3, 3);
        due.same("a new one is new", x.of(1, 3), 0);
    }

    // Promise 38
    private static void tear() {
        TrueMaps x = withMender(0, 0);
        due.same("tear nothing", x.tear(), 0);
        x.image();
        due.same("tear", x.tear(), 1);
        due.same("tear nothing again", x.tear(), 0);
        due.same("nothing kept", x.undo(), NONE);
        due.same("what is stays", x.count(0), 1);
    }

    // Promise 39
    private static void count() {
        TrueMaps x = withMender(0, 0);
        x.draw(1, 0, ROAD);
        x.draw(2, 0, WATER);
        x.draw(47, 1, WATER);
        x.feed(0, 3);
        due.same("count menders", x.count(0), 1);
        due.same("count bytes", x.count(1), 3);
        due.same("count land", x.count(2), 2);
        due.same("count map", x.count(3), 1);
        due.same("count -1", x.count(-1), BEYOND);
        due.same("count 4", x.count(4), BEYOND);
    }

    // Promise 40
    private static void status() {
        TrueMaps x = new TrueMaps();
        due.same("none yet", x.status(-1), 0);
        x.cells(9);
        x.undo();
        x.write(0, 0, 0);
        x.sheet(0, 8, -1);
        x.mender(0, 0);
        x.as(0, 1);
        x.cost(0, 0);
        x.image();
        for (int i = 0; i < 31; i++) {
            x.feed(0, 4);
        }
        x.undo();
        int[] wanted = {1, 1, 1, 1, 1, 1, 1};
        for (int f = 0; f < 7; f++) {
            due.same("status " + f, x.status(f), wanted[f]);
        }
        due.same("status of all", x.status(-1), 7);
        due.same("status 7", x.status(7), BEYOND);
        due.same("counted", x.status(0), 2);
        due.same("status -2", x.status(-2), BEYOND);
        due.same("counted", x.status(-1), 9);
    }

    // Cell 0 is a cell like others, and no sign that there is none.
    private static void firstCell() {
        TrueMaps x = withMender(0, 0);
        x.mender(5, 9);
        x.draw(0, 1, ROAD);
        due.same("goes for 0", x.of(0, 4), 0);
        due.same("cost of 0", x.of(0, 5), 17);
        due.same("insurer goes for 0", x.of(1, 4), 0);
        due.same("insurer's cost of 0", x.of(1, 5), 12);
        due.same("cheapest is 0", x.cheapest(0), 0);
        due.same("best is 0", x.best(0), 0);
        due.same("when 0", x.when(0), 1);
        x.draw(1, 1, HILL);
        due.same("0, then 1", x.two(0), 1);
        due.same("left", x.left(0), 0);
        x.draw(0, 0, ROAD);
        due.same("count of land", x.count(2), 1);
        due.same("count of map", x.count(3), 2);

        TrueMaps spoilt = withMender(0, 0);
        spoilt.draw(1, 1, VILLAGE);
        spoilt.draw(46, 1, VILLAGE);
        spoilt.draw(38, 0, WOOD);
        spoilt.draw(38, 1, WOOD);
        due.same("0 would be spoilt, too", spoilt.best(0), 46);
        spoilt.mend(0, 1);
        due.same("0 is spoilt, too", spoilt.cell(0, 0), ROAD);

        TrueMaps below = withMender(0, 0);
        below.draw(8, 1, VILLAGE);
        below.mend(0, 8);
        due.same("0 is above 8", below.cells(6), 1L | 1L << 9 | 1L << 16);
        due.same("8, then 0", mapOf(below, "land 0 plain to 47"), 1);
        due.same("8, then 0", below.two(0), 800);
        due.same("left", below.left(0), 2);
    }

    private static void allCells() {
        TrueMaps x = withMender(0, 47);
        mapOf(x, "map 0 hill to 47");
        due.same("all wrong", x.now(1), 48);
        due.same("best of all", x.best(0), 0);
        due.same("two of all", x.two(0), 1);
        due.same("left of all", x.left(0), 46);
        due.same("cheapest of all", x.cheapest(0), 0);
        x.set(0, 2, 12);
        due.same("only a briber mends one of all, in a corner", x.kind(0, 1), 3);
        due.same("four beside", x.cell(9, 3), 4);
        due.same("three beside", x.cell(8, 3), 3);
        due.same("three beside", x.cell(15, 3), 3);
        due.same("two beside", x.cell(47, 3), 2);
    }

    private static void fullTape() {
        String blanks = " ".repeat(120);
        TrueMaps x = new TrueMaps();
        due.same("ends in blanks", mapOf(x, "income 1" + blanks.substring(8)), 1);
        due.same("ends in a number", mapOf(x, blanks.substring(8) + "income 1"), 1);
        due.same("ends in a word", mapOf(x, blanks.substring(11) + "land 3 road"), 1);
        due.same("ends in a word that is not all", mapOf(x, blanks.substring(6) + "income"), -121);
        due.same("ends in a sign", mapOf(x, blanks.substring(9) + "income 1;"), -121);
        due.same("blanks alone", mapOf(x, blanks), -121);
        due.same("digits alone", mapOf(x, "9".repeat(120)), -1);
        due.same("letters alone", mapOf(x, "a".repeat(120)), -1);
        due.same("signs alone", mapOf(x, ";".repeat(120)), -1);
        due.same("many digits", mapOf(x, "income " + "0".repeat(112) + "9"), 1);
        due.same("many digits", x.now(4), 9);
        StringBuilder most = new StringBuilder("income1");
        for (int i = 1; i < 14; i++) {
            most.append(";income").append(i % 10);
        }
        due.same("many items", mapOf(x, most.toString()), 14);
        due.same("many items", x.now(4), 3);
    }
}
