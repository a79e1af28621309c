import com.sun.management.ThreadMXBean;
import java.lang.management.ManagementFactory;

/** All calls of a run live in one room: an object makes its rows once, and no call makes anything. */
public final class RoomTest {
    private static final Due due = new Due("RoomTest");
    // The machine itself may make a little while it warms up; one array in each round would be far above.
    private static final long LITTLE = 4096;
    private static final int ROUNDS = 400;
    private static final long MOST_OF_AN_OBJECT = 8192;

    private static final String TEXT = "land 8 road to 15;map 20 water;map 33 village to 36;insurer at 12 purse 80;income 5";

    private RoomTest() {
    }

    public static void main(String[] args) {
        madeByRounds();
        long made = madeByRounds();
        due.holds("calls make nothing, but made " + made + " bytes", made <= LITTLE);
        long object = madeByAnObject();
        due.holds("an object is small, but is " + object + " bytes", object <= MOST_OF_AN_OBJECT);
        due.end();
    }

    private static long now() {
        return ((ThreadMXBean) ManagementFactory.getThreadMXBean()).getCurrentThreadAllocatedBytes();
    }

    /** A new object for each round, as none is used for more than 512 calls. */
    private static long madeByRounds() {
        TrueMaps[] objects = new TrueMaps[ROUNDS];
        for (int i = 0; i < ROUNDS; i++) {
            objects[i] = new TrueMaps();
        }
        now();
        long before = now();
        for (TrueMaps x : objects) {
            round(x);
        }
        return now() - before;
    }

    private static long madeByAnObject() {
        TrueMaps first = new TrueMaps();
        long before = now();
        TrueMaps second = new TrueMaps();
        long after = now();
        due.same("two objects", first.count(0) + second.count(0), 0);
        return after - before;
    }

    /** Every call once, and some that are refused; what is there goes back to nothing at the end. */
    private static void round(TrueMaps x) {
        x.image();
        text(x);
        x.mender(3, 40);
        x.draw(1, 1, 3);
        x.mend(0, 1);
        land(x);
        best(x);
        sheets(x);
        x.years(2);
        x.undo();
        x.tear();
        x.undo();
        x.status(-1);
    }

    private static void text(TrueMaps x) {
        for (int i = 0; i < TEXT.length(); i++) {
            x.feed(TEXT.charAt(i), 1);
        }
        x.map();
        x.feed(7, 4);
        x.wipe();
        x.feed(7, 4);
        x.map();
    }

    private static void land(TrueMaps x) {
        x.cell(8, 3);
        x.cells(0);
        x.cells(6);
        x.income(3);
        x.of(0, 4);
        x.set(0, 2, 90);
        x.turn(1, 2);
        x.as(0, 2);
        x.as(0, 1);
        x.cost(1, 20);
        x.now(2);
        x.count(2);
    }

    private static void best(TrueMaps x) {
        x.on(0, 9, 1);
        x.wrong(9);
        x.done();
        x.when(20);
        x.cheapest(0);
        x.best(0);
        x.two(0);
        x.left(1);
        x.kind(0, 5);
        x.purse(0, 2);
        x.needed(5);
        x.way(0, 47, 0);
        x.way(8, 15, 1);
    }

    private static void sheets(TrueMaps x) {
        x.sheet(0, 8, 3);
        x.sheet(1, 8, 40);
        x.write(0, 1, 5);
        x.copy(0, 0, 1, 4, 3);
        x.book(0);
        x.read(0, 0);
        x.lays(1);
        x.sheet(0, 0, 0);
        x.sheet(1, 64, -1);
    }
}
