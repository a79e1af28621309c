/** A land, a map of it by cells, and menders who pay to make the one like the other. */
public final class TrueMaps {
    private static final int BEYOND = -1000000001;
    private static final int FULL = -1000000002;
    private static final int KIND = -1000000003;
    private static final int NONE = -1000000004;
    private static final int STATE = -1000000005;
    private static final int MISSING = -1000000006;
    private static final int SIZE = -1000000007;
    private static final int FINDINGS = 7;

    private static final int CELLS = 48;
    private static final int COLUMNS = 8;
    private static final long ALL_CELLS = 0xFFFFFFFFFFFFL;
    private static final long LEFT_COLUMN = 0x010101010101L;
    private static final long RIGHT_COLUMN = 0x808080808080L;

    private static final int LAND = 0;
    private static final int MAP = 1;

    private static final int PLAIN = 0;
    private static final int WATER = 1;
    private static final int VILLAGE = 3;
    private static final int ROAD = 5;
    private static final int SORTS = 6;
    private static final int NO_SORT = -1;

    private static final int MENDER = 0;
    private static final int DIGGER = 1;
    private static final int CLERK = 2;
    private static final int BRIBER = 3;
    private static final int MOVER = 4;
    private static final int INSURER = 5;
    private static final int KINDS = 6;

    private static final int MOST_MENDERS = 6;
    private static final int NOBODY = -1;
    private static final int FIRST_PURSE = 50;
    private static final int MOST_PURSE = 9999;
    private static final int MOST_PAID = 99999;
    private static final int MOST_INCOME = 20;
    private static final int MOST_YEAR = 9999;
    private static final int MOST_YEARS = 60;
    private static final int MOST_TRIED_PURSE = 255;
    private static final int MOST_TRIED_YEARS = 20;

    private static final int SHEETS = 4;
    private static final int MOST_NUMBERS = 40;
    private static final int MOST_BYTES = 120;

    private final World world = new World();
    // Every "what if" is played here, so that no call has to make an object.
    private final World trial = new World();
    private final World kept = new World();
    private final Tape tape = new Tape();
    private final Sheet[] sheets = new Sheet[SHEETS];
    private final int[] findings = new int[FINDINGS];
    private boolean keeping;

    public TrueMaps() {
        for (int s = 0; s < SHEETS; s++) {
            sheets[s] = new Sheet();
        }
    }

    // ---- land, map

    public int draw(int cell, int what, int sort) {
        if (noCell(cell) || outside(what, LAND, MAP) || outside(sort, 0, SORTS - 1)) {
            return finding(BEYOND);
        }
        return world.paint(what, cell, sort);
    }

    public int cell(int cell, int what) {
        if (noCell(cell) || outside(what, 0, 4)) {
            return finding(BEYOND);
        }
        switch (what) {
            case 0:
                return world.land[cell];
            case 1:
                return world.map[cell];
            case 2:
                return world.isWrong(cell) ? 1 : 0;
            case 3:
                return Long.bitCount(world.wrong & beside(1L << cell));
            default:
                return world.mendersAt(cell);
        }
    }

    public long cells(int what) {
        if (outside(what, 0, SORTS)) {
            return finding(BEYOND);
        }
        return what == 0 ? world.wrong : world.landOf(what - 1);
    }

    public int income(int v) {
        if (outside(v, 0, MOST_INCOME)) {
            return finding(BEYOND);
        }
        int was = world.income;
        world.income = v;
        return was;
    }

    // ---- menders

    public int mender(int kind, int cell) {
        if (noKind(kind) || noCell(cell)) {
            return finding(BEYOND);
        }
        if (world.menders >= MOST_MENDERS) {
            return finding(FULL);
        }
        return world.addMender(kind, cell, FIRST_PURSE);
    }

    public int of(int mender, int what) {
        if (noMender(mender) || outside(what, 0, 5)) {
            return finding(BEYOND);
        }
        switch (what) {
            case 0:
                return world.kinds[mender];
            case 1:
                return world.places[mender];
            case 2:
                return world.purses[mender];
            case 3:
                return world.paid[mender];
            case 4:
                return world.goalOf(mender);
            default:
                return world.costOfGoal(mender);
        }
    }

    public int set(int mender, int what, int v) {
        if (noMender(mender) || outside(what, 1, 2)) {
            return finding(BEYOND);
        }
        int most = what == 1 ? CELLS - 1 : MOST_PURSE;
        if (outside(v, 0, most)) {
            return finding(BEYOND);
        }
        int[] row = what == 1 ? world.places : world.purses;
        int was = row[mender];
        row[mender] = v;
        return was;
    }

    public int turn(int mender, int kind) {
        if (noMender(mender) || noKind(kind)) {
            return finding(BEYOND);
        }
        int was = world.kinds[mender];
        world.kinds[mender] = kind;
        return was;
    }

    public int as(int mender, int kind) {
        if (noMender(mender) || noKind(kind)) {
            return finding(BEYOND);
        }
        if (!isUnder(world.kinds[mender], kind)) {
            return finding(KIND);
        }
        return world.purses[mender];
    }

    public int cost(int mender, int cell) {
        if (noMender(mender) || noCell(cell)) {
            return finding(BEYOND);
        }
        if (!world.isWrong(cell)) {
            return finding(STATE);
        }
        return world.costOf(mender, cell);
    }

    public int mend(int mender, int cell) {
        if (noMender(mender) || noCell(cell)) {
            return finding(BEYOND);
        }
        int price = world.costOf(mender, cell);
        if (!world.isWrong(cell) || world.purses[mender] < price) {
            return finding(STATE);
        }
        world.payAndMend(mender, cell, price);
        return world.howManyWrong();
    }

    // ---- years

    public int years(int n) {
        if (outside(n, 1, MOST_YEARS)) {
            return finding(BEYOND);
        }
        if (world.year + n > MOST_YEAR) {
            return finding(STATE);
        }
        world.year += n;
        return world.passYears(n, NOBODY);
    }

    public int now(int what) {
        if (outside(what, 0, 4)) {
            return finding(BEYOND);
        }
        switch (what) {
            case 0:
                return world.year;
            case 1:
                return world.howManyWrong();
            case 2:
                return world.together(world.purses);
            case 3:
                return world.together(world.paid);
            default:
                return world.income;
        }
    }

    public int on(int mender, int n, int what) {
        if (noMender(mender) || outside(n, 0, MOST_YEARS) || outside(what, 0, 2)) {
            return finding(BEYOND);
        }
        trial.become(world);
        trial.passYears(n, NOBODY);
        switch (what) {
            case 0:
                return trial.places[mender];
            case 1:
                return trial.purses[mender];
            default:
                return trial.paid[mender];
        }
    }

    public int wrong(int n) {
        if (outside(n, 0, MOST_YEARS)) {
            return finding(BEYOND);
        }
        trial.become(world);
        return trial.passYears(n, NOBODY);
    }

    public int done() {
        int year = firstYearWithout(ALL_CELLS);
        return year < 0 ? finding(NONE) : year;
    }

    public int when(int cell) {
        if (noCell(cell)) {
            return finding(BEYOND);
        }
        int year = firstYearWithout(1L << cell);
        return year < 0 ? finding(NONE) : year;
    }

    // ---- what is best

    public int cheapest(int mender) {
        if (noMender(mender)) {
            return finding(BEYOND);
        }
        int found = -1;
        int least = 0;
        for (int c = 0; c < CELLS; c++) {
            if (world.isWrong(c)) {
                int price = world.costOf(mender, c);
                if (found < 0 || price < least) {
                    least = price;
                    found = c;
                }
            }
        }
        return found < 0 ? finding(NONE) : found;
    }

    public int best(int mender) {
        if (noMender(mender)) {
            return finding(BEYOND);
        }
        int found = world.bestFor(mender);
        return found < 0 ? finding(NONE) : found;
    }

    public int two(int mender) {
        if (noMender(mender)) {
            return finding(BEYOND);
        }
        int pair = bestPair(mender);
        return pair < 0 ? finding(NONE) : pair;
    }

    public int left(int mender) {
        if (noMender(mender)) {
            return finding(BEYOND);
        }
        int pair = bestPair(mender);
        if (pair < 0) {
            return finding(NONE);
        }
        trial.become(world);
        trial.mendFree(mender, pair / 100);
        return Long.bitCount(trial.wrongOnceMended(mender, pair % 100));
    }

    public int kind(int mender, int n) {
        if (noMender(mender) || outside(n, 0, MOST_YEARS)) {
            return finding(BEYOND);
        }
        int found = MENDER;
        int fewest = CELLS + 1;
        for (int k = 0; k < KINDS; k++) {
            trial.become(world);
            trial.kinds[mender] = k;
            int wrongThen = trial.passYears(n, NOBODY);
            if (wrongThen < fewest) {
                fewest = wrongThen;
                found = k;
            }
        }
        return found;
    }

    public int purse(int mender, int n) {
        if (noMender(mender) || outside(n, 0, MOST_TRIED_YEARS)) {
            return finding(BEYOND);
        }
        tryPurse(mender, MOST_TRIED_PURSE);
        int enough = trial.passYears(n, NOBODY);
        for (int p = 0; p < MOST_TRIED_PURSE; p++) {
            tryPurse(mender, p);
            if (trial.passYears(n, NOBODY) <= enough) {
                return p;
            }
        }
        return MOST_TRIED_PURSE;
    }

    public int needed(int n) {
        if (outside(n, 0, MOST_YEARS)) {
            return finding(BEYOND);
        }
        int found = NOBODY;
        int most = -1;
        for (int m = 0; m < world.menders; m++) {
            trial.become(world);
            int wrongThen = trial.passYears(n, m);
            if (wrongThen > most) {
                most = wrongThen;
                found = m;
            }
        }
        return found == NOBODY ? finding(NONE) : found;
    }

    public int way(int from, int to, int what) {
        if (noCell(from) || noCell(to) || outside(what, 0, 1)) {
            return finding(BEYOND);
        }
        long open = what == 0
            ? ALL_CELLS & ~world.landOf(WATER)
            : world.landOf(ROAD) | world.landOf(VILLAGE);
        long goal = 1L << to;
        long reached = 1L << from & open;
        for (int steps = 0; steps < CELLS; steps++) {
            if ((reached & goal) != 0) {
                return steps;
            }
            reached |= beside(reached) & open;
        }
        return finding(NONE);
    }

    // ---- the text

    public int feed(int bytes, int n) {
        if (outside(n, 1, 4)) {
            return finding(BEYOND);
        }
        if (tape.length + n > MOST_BYTES) {
            return finding(FULL);
        }
        for (int i = n - 1; i >= 0; i--) {
            tape.bytes[tape.length] = bytes >>> 8 * i & 0xFF;
            tape.length++;
        }
        return tape.length;
    }

    public int wipe() {
        int had = tape.length;
        tape.length = 0;
        return had;
    }

    public int map() {
        // The items come to a copy first, for a later fault must leave nothing of the earlier ones.
        trial.become(world);
        int items = tape.readInto(trial);
        if (items > 0) {
            world.become(trial);
        }
        tape.length = 0;
        return items;
    }

    // ---- sheets

    public int sheet(int s, int bits, int n) {
        if (noSheet(s) || bits != 0 && bits != 8 && bits != 16 && bits != 64) {
            return finding(BEYOND);
        }
        if (n < 0) {
            return finding(SIZE);
        }
        if (n > MOST_NUMBERS) {
            return finding(BEYOND);
        }
        sheets[s].clear(bits, n);
        return sheets[s].size;
    }

    public long write(int s, int i, long v) {
        if (noSheet(s)) {
            return finding(BEYOND);
        }
        if (sheets[s].isMissing()) {
            return finding(MISSING);
        }
        if (outside(i, 0, sheets[s].size - 1)) {
            return finding(BEYOND);
        }
        return sheets[s].put(i, v);
    }

    public int copy(int s, int from, int t, int to, int n) {
        if (noSheet(s) || noSheet(t)) {
            return finding(BEYOND);
        }
        Sheet source = sheets[s];
        Sheet target = sheets[t];
        if (source.isMissing() || target.isMissing()) {
            return finding(MISSING);
        }
        if (source.bits != target.bits) {
            return finding(KIND);
        }
        if (!source.hasPart(from, n) || !target.hasPart(to, n)) {
            return finding(BEYOND);
        }
        System.arraycopy(source.numbers, from, target.numbers, to, n);
        return n;
    }

    public int lays(int s) {
        if (noSheet(s)) {
            return finding(BEYOND);
        }
        Sheet sheet = sheets[s];
        if (sheet.isMissing()) {
            return finding(MISSING);
        }
        int came = 0;
        for (int i = 0; i < sheet.size; i++) {
            long sort = sheet.numbers[i];
            if (sort >= 0 && sort < SORTS) {
                world.paint(MAP, i, (int) sort);
                came++;
            }
        }
        return came;
    }

    public int book(int s) {
        if (noSheet(s)) {
            return finding(BEYOND);
        }
        Sheet sheet = sheets[s];
        if (sheet.isMissing()) {
            return finding(MISSING);
        }
        trial.become(world);
        for (int i = 0; i < sheet.size; i++) {
            sheet.put(i, trial.howManyWrong());
            trial.passYears(1, NOBODY);
        }
        return sheet.size;
    }

    public int read(int s, int mender) {
        if (noSheet(s)) {
            return finding(BEYOND);
        }
        if (sheets[s].isMissing()) {
            return finding(MISSING);
        }
        if (noMender(mender)) {
            return finding(BEYOND);
        }
        int pairs = 0;
        for (int k = 0; k < KINDS; k++) {
            for (int c = 0; c < CELLS; c++) {
                trial.become(world);
                trial.kinds[mender] = k;
                trial.places[mender] = c;
                if (trialGoesAs(sheets[s])) {
                    pairs++;
                }
            }
        }
        return pairs;
    }

    // ---- images

    public int image() {
        kept.become(world);
        keeping = true;
        return 1;
    }

    public int undo() {
        if (!keeping) {
            return finding(NONE);
        }
        world.become(kept);
        return world.menders;
    }

    public int tear() {
        int had = keeping ? 1 : 0;
        keeping = false;
        return had;
    }

    public int count(int what) {
        if (outside(what, 0, 3)) {
            return finding(BEYOND);
        }
        switch (what) {
            case 0:
                return world.menders;
            case 1:
                return tape.length;
            case 2:
                return notPlain(world.land);
            default:
                return notPlain(world.map);
        }
    }

    public int status(int which) {
        if (outside(which, -1, FINDINGS - 1)) {
            return finding(BEYOND);
        }
        if (which >= 0) {
            return findings[which];
        }
        int all = 0;
        for (int f = 0; f < FINDINGS; f++) {
            all += findings[f];
        }
        return all;
    }

    // ---- what the acts share

    private int finding(int which) {
        findings[BEYOND - which]++;
        return which;
    }

    private boolean noMender(int mender) {
        return outside(mender, 0, world.menders - 1);
    }

    private static boolean noCell(int cell) {
        return outside(cell, 0, CELLS - 1);
    }

    private static boolean noKind(int kind) {
        return outside(kind, 0, KINDS - 1);
    }

    private static boolean noSheet(int s) {
        return outside(s, 0, SHEETS - 1);
    }

    private static boolean outside(int value, int least, int most) {
        return value < least || value > most;
    }

    private static boolean isUnder(int kind, int above) {
        if (kind == above || above == MENDER) {
            return true;
        }
        return kind == MOVER && above == DIGGER || kind == INSURER && above == CLERK;
    }

    private static int notPlain(int[] layer) {
        int found = 0;
        for (int c = 0; c < CELLS; c++) {
            if (layer[c] != PLAIN) {
                found++;
            }
        }
        return found;
    }

    /** In how many years ON none of some cells is wrong first; -1: never. */
    private int firstYearWithout(long some) {
        trial.become(world);
        for (int year = 0; year < MOST_YEARS; year++) {
            if ((trial.wrong & some) == 0) {
                return year;
            }
            trial.passYears(1, NOBODY);
        }
        return (trial.wrong & some) == 0 ? MOST_YEARS : -1;
    }

    /** 100 times the first and the second of the best two cells; -1: no two can be. */
    private int bestPair(int mender) {
        int found = -1;
        int fewest = CELLS + 1;
        for (int first = 0; first < CELLS; first++) {
            if (world.isWrong(first)) {
                trial.become(world);
                trial.mendFree(mender, first);
                int second = trial.bestFor(mender);
                if (second >= 0) {
                    int left = Long.bitCount(trial.wrongOnceMended(mender, second));
                    if (left < fewest) {
                        fewest = left;
                        found = 100 * first + second;
                    }
                }
            }
        }
        return found;
    }

    private void tryPurse(int mender, int purse) {
        trial.become(world);
        trial.purses[mender] = purse;
    }

    private boolean trialGoesAs(Sheet sheet) {
        for (int i = 0; i < sheet.size; i++) {
            if (sheet.numbers[i] != trial.howManyWrong()) {
                return false;
            }
            trial.passYears(1, NOBODY);
        }
        return true;
    }

    /** The cells beside those of a set, by bits: many at once, where cell by cell would take long. */
    private static long beside(long set) {
        long across = (set & ~RIGHT_COLUMN) << 1 | (set & ~LEFT_COLUMN) >>> 1;
        return (set << COLUMNS | set >>> COLUMNS | across) & ALL_CELLS;
    }

    private static boolean has(long set, int cell) {
        return (set >>> cell & 1L) != 0;
    }

    /** The least cell of a set that is not empty. */
    private static int leastOf(long set) {
        return Long.bitCount((set & -set) - 1);
    }

    /** All that the first section of the document tells, but for the tape. */
    private static final class World {
        final int[] land = new int[CELLS];
        final int[] map = new int[CELLS];
        final int[] kinds = new int[MOST_MENDERS];
        final int[] places = new int[MOST_MENDERS];
        final int[] purses = new int[MOST_MENDERS];
        final int[] paid = new int[MOST_MENDERS];
        int menders;
        int year;
        int income = 2;
        // Follows from land and map; held beside them, for nearly every question begins with it.
        long wrong;

        void become(World other) {
            System.arraycopy(other.land, 0, land, 0, CELLS);
            System.arraycopy(other.map, 0, map, 0, CELLS);
            System.arraycopy(other.kinds, 0, kinds, 0, MOST_MENDERS);
            System.arraycopy(other.places, 0, places, 0, MOST_MENDERS);
            System.arraycopy(other.purses, 0, purses, 0, MOST_MENDERS);
            System.arraycopy(other.paid, 0, paid, 0, MOST_MENDERS);
            menders = other.menders;
            year = other.year;
            income = other.income;
            wrong = other.wrong;
        }

        /** Land (LAND) or map (MAP) of a cell becomes a sort; what it was. */
        int paint(int layer, int cell, int sort) {
            int[] row = layer == LAND ? land : map;
            int was = row[cell];
            row[cell] = sort;
            long bit = 1L << cell;
            wrong = land[cell] == map[cell] ? wrong & ~bit : wrong | bit;
            return was;
        }

        /** A new mender's number; the caller has seen that there is room. */
        int addMender(int kind, int cell, int purse) {
            int number = menders;
            kinds[number] = kind;
            places[number] = cell;
            purses[number] = purse;
            paid[number] = 0;
            menders++;
            return number;
        }

        boolean isWrong(int cell) {
            return has(wrong, cell);
        }

        int howManyWrong() {
            return Long.bitCount(wrong);
        }

        int mendersAt(int cell) {
            int set = 0;
            for (int m = 0; m < menders; m++) {
                if (places[m] == cell) {
                    set |= 1 << m;
                }
            }
            return set;
        }

        long landOf(int sort) {
            long set = 0;
            for (int c = 0; c < CELLS; c++) {
                if (land[c] == sort) {
                    set |= 1L << c;
                }
            }
            return set;
        }

        int together(int[] row) {
            int sum = 0;
            for (int m = 0; m < menders; m++) {
                sum += row[m];
            }
            return sum;
        }

        int costOf(int mender, int cell) {
            int plainCost = 3 * Math.abs(land[cell] - map[cell]) + 2;
            int besideIt = Long.bitCount(wrong & beside(1L << cell));
            int dugCost = isEither(cell, WATER) ? plainCost / 2 : plainCost;
            switch (kinds[mender]) {
                case DIGGER:
                    return dugCost;
                case CLERK:
                    return plainCost + besideIt;
                case BRIBER:
                    return 2 * (4 + besideIt);
                case MOVER:
                    return isEither(cell, VILLAGE) ? Math.max(1, dugCost - 5) : dugCost;
                case INSURER:
                    return Math.max(1, plainCost + besideIt - purses[mender] / 10);
                default:
                    return plainCost;
            }
        }

        boolean isEither(int cell, int sort) {
            return land[cell] == sort || map[cell] == sort;
        }

        /** The cell that a mender goes for; -1: none. */
        int goalOf(int mender) {
            if (wrong == 0) {
                return -1;
            }
            if (kinds[mender] != INSURER) {
                return nearestTo(places[mender]);
            }
            int found = -1;
            int most = 0;
            for (int c = 0; c < CELLS; c++) {
                if (has(wrong, c)) {
                    int price = costOf(mender, c);
                    if (price > most) {
                        most = price;
                        found = c;
                    }
                }
            }
            return found;
        }

        /** The nearest wrong cell, of several the least; there is one. */
        int nearestTo(int cell) {
            long near = 1L << cell;
            for (int apart = 0; apart < CELLS && (near & wrong) == 0; apart++) {
                near |= beside(near);
            }
            return leastOf(near & wrong);
        }

        int costOfGoal(int mender) {
            int goal = goalOf(mender);
            return goal < 0 ? 0 : costOf(mender, goal);
        }

        /** What would be wrong if a mender mended a wrong cell; changes nothing. */
        long wrongOnceMended(int mender, int cell) {
            long after = wrong & ~(1L << cell);
            if (kinds[mender] == BRIBER) {
                return after;
            }
            int from = sortSpoiltBy(map[cell]);
            int to = sortSpoiltTo(map[cell]);
            for (int side = 0; side < 4; side++) {
                int other = cellAtSide(cell, side);
                if (other >= 0 && land[other] == from) {
                    long bit = 1L << other;
                    after = map[other] == to ? after & ~bit : after | bit;
                }
            }
            return after;
        }

        void mendFree(int mender, int cell) {
            places[mender] = cell;
            if (kinds[mender] == BRIBER) {
                paint(MAP, cell, land[cell]);
                return;
            }
            int sort = map[cell];
            paint(LAND, cell, sort);
            for (int side = 0; side < 4; side++) {
                int other = cellAtSide(cell, side);
                if (other >= 0 && land[other] == sortSpoiltBy(sort)) {
                    paint(LAND, other, sortSpoiltTo(sort));
                }
            }
        }

        void payAndMend(int mender, int cell, int price) {
            purses[mender] -= price;
            paid[mender] = Math.min(MOST_PAID, paid[mender] + price);
            mendFree(mender, cell);
        }

        /** Which sort beside a new water or village does not stay as it is. */
        static int sortSpoiltBy(int sort) {
            if (sort == WATER) {
                return ROAD;
            }
            return sort == VILLAGE ? PLAIN : NO_SORT;
        }

        static int sortSpoiltTo(int sort) {
            return sort == WATER ? PLAIN : ROAD;
        }

        /** The cell up, right, down or left of one; -1: there is none. */
        static int cellAtSide(int cell, int side) {
            int column = cell % COLUMNS;
            switch (side) {
                case 0:
                    return cell >= COLUMNS ? cell - COLUMNS : -1;
                case 1:
                    return column < COLUMNS - 1 ? cell + 1 : -1;
                case 2:
                    return cell < CELLS - COLUMNS ? cell + COLUMNS : -1;
                default:
                    return column > 0 ? cell - 1 : -1;
            }
        }

        /** The wrong cell that, mended, leaves fewest wrong, of several the least; -1: none. */
        int bestFor(int mender) {
            int found = -1;
            int fewest = CELLS + 1;
            for (int c = 0; c < CELLS; c++) {
                if (has(wrong, c)) {
                    int left = Long.bitCount(wrongOnceMended(mender, c));
                    if (left < fewest) {
                        fewest = left;
                        found = c;
                    }
                }
            }
            return found;
        }

        /** Years for all but an idle one: how many are wrong then. The number of the year is the caller's. */
        int passYears(int n, int idle) {
            for (int i = 0; i < n && wrong != 0; i++) {
                for (int m = 0; m < menders; m++) {
                    if (m != idle) {
                        workOneYear(m);
                    }
                }
            }
            return howManyWrong();
        }

        void workOneYear(int mender) {
            int goal = goalOf(mender);
            if (goal < 0) {
                return;
            }
            int price = costOf(mender, goal);
            if (purses[mender] >= price) {
                payAndMend(mender, goal, price);
            }
            purses[mender] = Math.min(MOST_PURSE, purses[mender] + income);
        }
    }

    /** A row of numbers, or missing: then it is of 0 bits. */
    private static final class Sheet {
        final long[] numbers = new long[MOST_NUMBERS];
        int bits;
        int size;

        boolean isMissing() {
            return bits == 0;
        }

        void clear(int newBits, int n) {
            for (int i = 0; i < MOST_NUMBERS; i++) {
                numbers[i] = 0;
            }
            bits = newBits;
            size = newBits == 0 ? 0 : n;
        }

        long put(int i, long v) {
            long was = numbers[i];
            numbers[i] = cut(v);
            return was;
        }

        // Numbers have a sign whatever their bits are, as the 64-bit ones must have.
        long cut(long v) {
            if (bits == 8) {
                return (byte) v;
            }
            return bits == 16 ? (short) v : v;
        }

        boolean hasPart(int from, int n) {
            return from >= 0 && n >= 0 && n <= size && from <= size - n;
        }
    }

    /** The bytes of a text, and the token of it that is looked at. */
    private static final class Tape {
        static final int END = 0;
        static final int WORD = 1;
        static final int NUMBER = 2;
        static final int SIGN = 3;
        static final int NO_TOKEN = 4;
        static final int NUMBER_TOO_BIG = 10000;

        final int[] bytes = new int[MOST_BYTES];
        int length;
        int token;
        int start;
        int end;
        int number;

        /** How many items came to a world; with a fault -1 less its place (the world is spoilt then). */
        int readInto(World target) {
            end = 0;
            advance();
            for (int items = 1; items <= MOST_BYTES; items++) {
                if (!readItem(target)) {
                    return -1 - start;
                }
                if (token == END) {
                    return items;
                }
                if (token != SIGN) {
                    return -1 - start;
                }
                advance();
            }
            return -1 - start;
        }

        // Where a reading of these fails, the token looked at is the one that can't stand there.
        boolean readItem(World target) {
            int kind = kindNamed();
            if (kind >= 0) {
                return readMender(target, kind);
            }
            if (isWord("land")) {
                return readCells(target, LAND);
            }
            if (isWord("map")) {
                return readCells(target, MAP);
            }
            return isWord("income") && readIncome(target);
        }

        boolean readMender(World target, int kind) {
            if (target.menders >= MOST_MENDERS) {
                return false;
            }
            advance();
            if (!isWord("at")) {
                return false;
            }
            advance();
            if (!isNumber(0, CELLS - 1)) {
                return false;
            }
            int cell = number;
            int purse = FIRST_PURSE;
            advance();
            if (isWord("purse")) {
                advance();
                if (!isNumber(0, MOST_PURSE)) {
                    return false;
                }
                purse = number;
                advance();
            }
            target.addMender(kind, cell, purse);
            return true;
        }

        boolean readCells(World target, int layer) {
            advance();
            if (!isNumber(0, CELLS - 1)) {
                return false;
            }
            int first = number;
            int last = number;
            advance();
            int sort = sortNamed();
            if (sort < 0) {
                return false;
            }
            advance();
            if (isWord("to")) {
                advance();
                if (!isNumber(first, CELLS - 1)) {
                    return false;
                }
                last = number;
                advance();
            }
            for (int c = first; c <= last; c++) {
                target.paint(layer, c, sort);
            }
            return true;
        }

        boolean readIncome(World target) {
            advance();
            if (!isNumber(0, MOST_INCOME)) {
                return false;
            }
            target.income = number;
            advance();
            return true;
        }

        int kindNamed() {
            for (int k = 0; k < KINDS; k++) {
                if (isWord(nameOfKind(k))) {
                    return k;
                }
            }
            return -1;
        }

        int sortNamed() {
            for (int s = 0; s < SORTS; s++) {
                if (isWord(nameOfSort(s))) {
                    return s;
                }
            }
            return -1;
        }

        static String nameOfKind(int kind) {
            switch (kind) {
                case MENDER:
                    return "mender";
                case DIGGER:
                    return "digger";
                case CLERK:
                    return "clerk";
                case BRIBER:
                    return "briber";
                case MOVER:
                    return "mover";
                default:
                    return "insurer";
            }
        }

        static String nameOfSort(int sort) {
            switch (sort) {
                case 0:
                    return "plain";
                case 1:
                    return "water";
                case 2:
                    return "wood";
                case 3:
                    return "village";
                case 4:
                    return "hill";
                default:
                    return "road";
            }
        }

        boolean isWord(String name) {
            if (token != WORD || end - start != name.length()) {
                return false;
            }
            for (int i = 0; i < name.length(); i++) {
                if (bytes[start + i] != name.charAt(i)) {
                    return false;
                }
            }
            return true;
        }

        boolean isNumber(int least, int most) {
            return token == NUMBER && number >= least && number <= most;
        }

        void advance() {
            start = end;
            while (start < length && bytes[start] == ' ') {
                start++;
            }
            end = start;
            if (start >= length) {
                token = END;
            } else if (isLetter(bytes[start])) {
                token = WORD;
                while (end < length && isLetter(bytes[end])) {
                    end++;
                }
            } else if (isDigit(bytes[start])) {
                token = NUMBER;
                readDigits();
            } else {
                token = bytes[start] == ';' ? SIGN : NO_TOKEN;
                end++;
            }
        }

        void readDigits() {
            number = 0;
            while (end < length && isDigit(bytes[end])) {
                // Held down, so that a long row of digits can't wrap around to a small number.
                number = Math.min(NUMBER_TOO_BIG, 10 * number + bytes[end] - '0');
                end++;
            }
        }

        static boolean isLetter(int b) {
            return b >= 'a' && b <= 'z';
        }

        static boolean isDigit(int b) {
            return b >= '0' && b <= '9';
        }
    }
}
