import java.util.Arrays;

/** A city on water, as ../shared/DOC.md tells it. Every answer keeps to that document's numbered promises. */
public final class WaterCity {

    public static final int NONE = -1;

    private static final int SIDE = 5;
    private static final int CELLS = 25;
    private static final int WAYS = 40;
    private static final int WAYS_EAST = 20;
    private static final int MOST_MOUTHS = 3;
    private static final int MOST_LAWS = 5;
    private static final int MOST_HOUSES = 12;
    private static final int MOST_BOATS = 6;
    private static final int SHELVES = 8;
    private static final int ELEMENTS = 96;
    private static final int SORTS = 4;
    private static final int KINDS = 3;
    private static final int DAY = 96;
    private static final int LAST_QUARTER = 20_000;
    private static final int MISSING_HEIGHT = 30;
    private static final int HIGHEST = 300;

    private static final int SHOP = 1;
    private static final int WELL = 2;

    private static final int EMPTY = 0;
    private static final int A_ROW = 1;
    private static final int A_HOUSE = 2;

    private static final int FIELD_F = 0;
    private static final int FIELD_S = 1;
    private static final int FIELD_L = 2;
    private static final int FIELD_H = 3;
    private static final int FIELD_W = 4;
    private static final int FIELD_D = 5;
    private static final int FIELDS = 6;
    private static final int QUARTERS_AHEAD = 8;

    private static final int NOBODY = -1;
    private static final int OTHER = -2;
    private static final int NOTHING = -3;
    private static final int BELOW = -4;
    private static final int BEYOND = -5;
    private static final int WRONG = -6;
    private static final int ROOM = -7;

    private static final int NO_HEIGHT = 1_000;
    private static final int NO_CELL = 1_000_000;
    private static final int NO_STATUS = -1_000_001;

    private final City city = new City();
    private final City kept = new City();
    private final City foreseen = new City();
    private boolean hasKept;
    private final Shelf[] shelves = new Shelf[SHELVES];
    private final int[] refusals = new int[8];
    private final LawReader reader = new LawReader();
    private int latestFault = NONE;

    public WaterCity() {
        for (int s = 0; s < SHELVES; s++) {
            shelves[s] = new Shelf();
        }
    }

    // ---- The lagoon by hand

    public int depth(int cell, int n) {
        if (!isCell(cell)) {
            return refuse(NOBODY);
        }
        if (!isWithin(n, 0, 60)) {
            return refuse(WRONG);
        }
        int before = city.lagoon.depth[cell];
        city.lagoon.depth[cell] = n;
        return before;
    }

    public int level(int cell, int n) {
        if (!isCell(cell)) {
            return refuse(NOBODY);
        }
        if (!isWithin(n, -HIGHEST, HIGHEST)) {
            return refuse(WRONG);
        }
        int before = city.lagoon.level[cell];
        city.lagoon.level[cell] = n;
        city.came += n - before;
        return before;
    }

    public int close(int a, int b, boolean is) {
        int way = Lagoon.wayBetween(a, b);
        if (way == NONE) {
            return refuse(NOBODY);
        }
        return turn(city.lagoon.closed, way, is);
    }

    public int narrow(int a, int b, boolean is) {
        int way = Lagoon.wayBetween(a, b);
        if (way == NONE) {
            return refuse(NOBODY);
        }
        return turn(city.lagoon.narrow, way, is);
    }

    public int bridge(int a, int b, int height) {
        int way = Lagoon.wayBetween(a, b);
        if (way == NONE) {
            return refuse(NOBODY);
        }
        if (!isWithin(height, NONE, 99)) {
            return refuse(WRONG);
        }
        int before = city.lagoon.bridge[way];
        city.lagoon.bridge[way] = height;
        return before;
    }

    public int dredge(int cell, int n) {
        if (!isCell(cell)) {
            return refuse(NOBODY);
        }
        if (!isWithin(n, 1, 20)) {
            return refuse(WRONG);
        }
        city.lagoon.depth[cell] = Math.min(60, city.lagoon.depth[cell] + n);
        return city.lagoon.depth[cell];
    }

    public int mouth(int cell) {
        if (!isCell(cell)) {
            return refuse(NOBODY);
        }
        if (city.mouths.numberAt(cell) != NONE) {
            return refuse(WRONG);
        }
        if (city.mouths.count >= MOST_MOUTHS) {
            return refuse(ROOM);
        }
        return city.mouths.add(cell);
    }

    public int gate(int mouth, boolean shut) {
        if (!isWithin(mouth, 0, city.mouths.count - 1)) {
            return refuse(NOBODY);
        }
        return turn(city.mouths.shut, mouth, shut);
    }

    // ---- Shelves

    public int row(int s, int sort, int n) {
        if (!isShelf(s)) {
            return refuse(NOBODY);
        }
        if (n < 0) {
            return refuse(BELOW);
        }
        if (!isWithin(sort, 0, SORTS - 1)) {
            return refuse(WRONG);
        }
        if (n > ELEMENTS) {
            return refuse(ROOM);
        }
        shelves[s].putRow(sort, n);
        return 1;
    }

    public int set(int s, int i, long v) {
        int refusal = rowRefusal(s);
        if (refusal != 0) {
            return refuse(refusal);
        }
        if (!isWithin(i, 0, shelves[s].size - 1)) {
            return refuse(BEYOND);
        }
        shelves[s].putElement(i, v);
        return 1;
    }

    public int copy(int p, int q, int i, int j, int n) {
        int refusal = copyRefusal(p, q);
        if (refusal != 0) {
            return refuse(refusal);
        }
        if (n < 0) {
            return refuse(BELOW);
        }
        if (!shelves[p].hasStretch(i, n) || !shelves[q].hasStretch(j, n)) {
            return refuse(BEYOND);
        }
        System.arraycopy(shelves[p].elements, i, shelves[q].elements, j, n);
        return 1;
    }

    public long element(int s, int i) {
        if (!isShelf(s) || shelves[s].holding != A_ROW || !isWithin(i, 0, shelves[s].size - 1)) {
            return 0L;
        }
        return shelves[s].elements[i];
    }

    public int show(int s, int house) {
        if (!isShelf(s) || house != NONE && !isHouse(house)) {
            return refuse(NOBODY);
        }
        if (house == NONE) {
            shelves[s].holding = EMPTY;
            return 0;
        }
        shelves[s].holding = A_HOUSE;
        shelves[s].house = house;
        return 1;
    }

    public int holds(int s) {
        if (!isShelf(s) || shelves[s].holding == EMPTY) {
            return NONE;
        }
        return shelves[s].holding == A_HOUSE ? shelves[s].house : 100 + shelves[s].sort;
    }

    public int harm(int s, int kind) {
        if (!isShelf(s) || !isWithin(kind, 0, KINDS - 1)) {
            return refuse(NOBODY);
        }
        if (shelves[s].holding == A_ROW) {
            return refuse(OTHER);
        }
        if (shelves[s].holding == EMPTY || !isHouse(shelves[s].house)) {
            return refuse(NOTHING);
        }
        House house = city.houses[shelves[s].house];
        if (kind != 0 && kind != house.kind) {
            return refuse(OTHER);
        }
        return kind == SHOP ? house.loss : kind == WELL ? house.salt : house.wetQuarters;
    }

    // ---- The sea, the rules and the laws

    public int sea(int s, boolean forecast) {
        int refusal = rowRefusal(s);
        if (refusal != 0) {
            return refuse(refusal);
        }
        city.tide(forecast).takeRow(shelves[s]);
        return shelves[s].size;
    }

    public int seaAt(int quarter, boolean forecast) {
        return quarter < 0 ? NO_HEIGHT : city.tide(forecast).heightIn(quarter);
    }

    public int rule(int what, int n) {
        int before;
        if (what == 0 && isWithin(n, 0, 99)) {
            before = city.miss;
            city.miss = n;
        } else if (what == 1 && isWithin(n, 1, 9)) {
            before = city.limit;
            city.limit = n;
        } else if (what == 2 && isWithin(n, 0, 9_999)) {
            before = city.calm;
            city.calm = n;
        } else {
            return refuse(WRONG);
        }
        return before;
    }

    public int law(int s) {
        int refusal = rowRefusal(s);
        if (refusal != 0) {
            return refuse(refusal);
        }
        latestFault = reader.read(shelves[s]);
        if (latestFault != NONE) {
            return refuse(WRONG);
        }
        if (city.lawCount >= MOST_LAWS) {
            return refuse(ROOM);
        }
        city.laws[city.lawCount].takeLaw(reader.draft);
        city.lawCount++;
        return city.lawCount - 1;
    }

    public int fault() {
        return latestFault;
    }

    public int force(int law, boolean is) {
        if (!isWithin(law, 0, city.lawCount - 1)) {
            return refuse(NOBODY);
        }
        boolean before = city.laws[law].inForce;
        city.laws[law].inForce = is;
        return before == is ? 0 : 1;
    }

    public int says(int law) {
        if (!isWithin(law, 0, city.lawCount - 1)) {
            return NONE;
        }
        city.lookAround();
        return city.laws[law].holdsFor(city.fields) ? 1 : 0;
    }

    public int best(int n, int what) {
        if (!isWithin(n, 1, 48) || !isWithin(what, 0, 1)) {
            return refuse(WRONG);
        }
        int bestSet = 0;
        int bestSum = 0;
        for (int set = 0; set < 1 << city.lawCount; set++) {
            foreseen.takeCity(city);
            foreseen.enforce(set);
            for (int i = 0; i < n; i++) {
                foreseen.liveWaters(true);
                foreseen.livePeople();
            }
            int sum = foreseen.troubles() - city.troubles();
            if (set == 0 || sum < bestSum) {
                bestSum = sum;
                bestSet = set;
            }
        }
        return what == 0 ? bestSet : bestSum;
    }

    // ---- Houses and boats

    public int house(int kind, int cell, int floor, int sink, int goods) {
        if (!isWithin(kind, 0, KINDS - 1) || !isCell(cell)) {
            return refuse(NOBODY);
        }
        if (!isWithin(floor, 0, 200) || !isWithin(sink, 0, 99) || !isWithin(goods, 0, 99)) {
            return refuse(WRONG);
        }
        if (city.houseCount >= MOST_HOUSES) {
            return refuse(ROOM);
        }
        House house = city.houses[city.houseCount];
        house.build(kind, cell, floor, sink, goods);
        city.houseCount++;
        return city.houseCount - 1;
    }

    public int raise(int house, int n) {
        if (!isHouse(house)) {
            return refuse(NOBODY);
        }
        if (!isWithin(n, 1, 50)) {
            return refuse(WRONG);
        }
        city.houses[house].floor = Math.min(300, city.houses[house].floor + n);
        return city.houses[house].floor;
    }

    public int about(int house, int what) {
        return isHouse(house) ? city.houses[house].tell(what) : NONE;
    }

    public int boat(int cell, int draught, int height, int speed, int rank) {
        if (!isCell(cell)) {
            return refuse(NOBODY);
        }
        if (!isWithin(draught, 1, 60) || !isWithin(height, 1, 99)) {
            return refuse(WRONG);
        }
        if (!isWithin(speed, 1, 9) || !isWithin(rank, 0, 9)) {
            return refuse(WRONG);
        }
        if (city.boatCount >= MOST_BOATS) {
            return refuse(ROOM);
        }
        city.boats[city.boatCount].launch(cell, draught, height, speed, rank);
        city.boatCount++;
        return city.boatCount - 1;
    }

    public int goal(int boat, int cell) {
        if (!isBoat(boat) || cell != NONE && !isCell(cell)) {
            return refuse(NOBODY);
        }
        int before = city.boats[boat].goal;
        city.boats[boat].goal = cell == city.boats[boat].cell ? NONE : cell;
        return before;
    }

    public int stepOf(int boat) {
        return isBoat(boat) ? city.nextCell(city.boats[boat]) : NONE;
    }

    public int route(int boat, int cell, int n) {
        // -1 is NONE here, an answer and no refusal: it is not counted
        if (!isBoat(boat) || !isCell(cell)) {
            return NONE;
        }
        if (!isWithin(n, 1, 96)) {
            return refuse(WRONG);
        }
        Boat sailing = city.boats[boat];
        if (sailing.cell == cell) {
            return 0;
        }
        foreseen.takeCity(city);
        int reached = 1 << sailing.cell;
        for (int quarter = 1; quarter <= n; quarter++) {
            foreseen.liveWaters(true);
            foreseen.chart.draw(foreseen.lagoon, sailing);
            reached = foreseen.chart.spread(reached);
            if ((reached >> cell & 1) == 1) {
                return quarter;
            }
            foreseen.livePeople();
        }
        return NONE;
    }

    public int sails(int boat, int what) {
        return isBoat(boat) ? city.boats[boat].tell(what) : NONE;
    }

    // ---- Time

    public int quarters(int n) {
        if (!isWithin(n, 1, 200)) {
            return refuse(WRONG);
        }
        if (city.now + n > LAST_QUARTER) {
            return refuse(ROOM);
        }
        for (int i = 0; i < n; i++) {
            city.liveWaters(false);
            city.livePeople();
        }
        return city.now;
    }

    public int foretold(int cell, int n) {
        if (!isCell(cell) || !isWithin(n, 0, 200)) {
            return NO_HEIGHT;
        }
        foreseen.takeCity(city);
        for (int i = 0; i < n; i++) {
            foreseen.liveWaters(true);
            foreseen.livePeople();
        }
        return foreseen.lagoon.level[cell];
    }

    public int image() {
        kept.takeCity(city);
        hasKept = true;
        return city.now;
    }

    public int restore() {
        if (!hasKept) {
            return refuse(WRONG);
        }
        city.takeCity(kept);
        for (int s = 0; s < SHELVES; s++) {
            if (shelves[s].holding == A_HOUSE && !isHouse(shelves[s].house)) {
                shelves[s].holding = EMPTY;
            }
        }
        return city.now;
    }

    // ---- What is

    public int cell(int cell, int what) {
        if (!isCell(cell)) {
            return NO_CELL;
        }
        switch (what) {
            case 0: return city.lagoon.depth[cell];
            case 1: return city.lagoon.level[cell];
            case 2: return city.lagoon.wall[cell];
            case 3: return city.lagoon.ran[cell];
            case 4: return city.mouths.numberAt(cell);
            default: return NO_CELL;
        }
    }

    public int way(int a, int b, int what) {
        int way = Lagoon.wayBetween(a, b);
        if (way == NONE) {
            return NONE;
        }
        switch (what) {
            case 0: return city.lagoon.closed[way] ? 1 : 0;
            case 1: return city.lagoon.narrow[way] ? 1 : 0;
            case 2: return city.lagoon.bridge[way];
            default: return NONE;
        }
    }

    public int status(int what) {
        switch (what) {
            case 0: return city.mouths.count;
            case 1: return city.mouths.shutCount();
            case 2: return city.lawCount;
            case 3: return city.lawsInForce();
            case 4: return city.houseCount;
            case 5: return city.boatCount;
            case 6: return city.boatsWithGoal();
            case 7: return city.now;
            case 8: return city.tooLate;
            case 9: return city.inVain;
            case 10: return city.lagoon.sumOfLevels();
            case 18: return city.came;
            default: return isWithin(what, 11, 17) ? refusals[what - 10] : NO_STATUS;
        }
    }

    // ---- What may be

    private int refuse(int number) {
        if (isWithin(-number, 1, 7)) {
            refusals[-number]++;
        }
        return number;
    }

    private static boolean isWithin(int n, int least, int most) {
        return n >= least && n <= most;
    }

    private static boolean isCell(int cell) {
        return cell >= 0 && cell < CELLS;
    }

    private static boolean isShelf(int s) {
        return s >= 0 && s < SHELVES;
    }

    private boolean isHouse(int house) {
        return house >= 0 && house < city.houseCount;
    }

    private boolean isBoat(int boat) {
        return boat >= 0 && boat < city.boatCount;
    }

    /** The refusal of a shelf where a row is wanted, or 0. */
    private int rowRefusal(int s) {
        if (!isShelf(s)) {
            return NOBODY;
        }
        if (shelves[s].holding == A_HOUSE) {
            return OTHER;
        }
        return shelves[s].holding == EMPTY ? NOTHING : 0;
    }

    /** The refusal of two shelves between which elements are to be copied, or 0. */
    private int copyRefusal(int p, int q) {
        int first = rowRefusal(p);
        int second = rowRefusal(q);
        if (first == NOBODY || second == NOBODY) {
            return NOBODY;
        }
        if (first == OTHER || second == OTHER) {
            return OTHER;
        }
        if (first == NOTHING || second == NOTHING) {
            return NOTHING;
        }
        return shelves[p].sort == shelves[q].sort ? 0 : OTHER;
    }

    private static int turn(boolean[] switches, int i, boolean is) {
        if (i < 0 || i >= switches.length || switches[i] == is) {
            return 0;
        }
        switches[i] = is;
        return 1;
    }

    /** What stands in one shelf: nothing, a row of its own, or the number of a house. */
    private static final class Shelf {
        int holding = EMPTY;
        int sort;
        int size;
        int house;
        final long[] elements = new long[ELEMENTS];

        void putRow(int newSort, int newSize) {
            holding = A_ROW;
            sort = newSort;
            size = newSize;
            Arrays.fill(elements, 0L);
        }

        void putElement(int i, long v) {
            switch (sort) {
                case 0: elements[i] = (byte) v; break;
                case 1: elements[i] = (short) v; break;
                case 2: elements[i] = (int) v; break;
                default: elements[i] = v; break;
            }
        }

        boolean hasStretch(int from, int n) {
            // as longs, for the sum of two large ints would turn negative
            return from >= 0 && (long) from + n <= size;
        }

        /** Whether an element is the least number of its sort. */
        boolean isMissing(int i) {
            switch (sort) {
                case 0: return elements[i] == -128L;
                case 1: return elements[i] == -32_768L;
                case 2: return elements[i] == -2_147_483_648L;
                default: return elements[i] == -9_223_372_036_854_775_808L;
            }
        }
    }

    /** The heights of the sea, or of the forecast, as a row had them when it was given. */
    private static final class Tide {
        private int size;
        private final int[] heights = new int[ELEMENTS];

        void takeRow(Shelf row) {
            size = row.size;
            for (int i = 0; i < size; i++) {
                int height = Math.max(-HIGHEST, Math.min(HIGHEST, (int) row.elements[i]));
                heights[i] = row.isMissing(i) ? MISSING_HEIGHT : height;
            }
        }

        void takeTide(Tide other) {
            size = other.size;
            System.arraycopy(other.heights, 0, heights, 0, ELEMENTS);
        }

        int heightIn(int quarter) {
            return size <= 0 || quarter < 0 ? 0 : heights[quarter % size];
        }
    }

    /** The mouths to the sea, by their numbers. */
    private static final class Mouths {
        int count;
        final int[] cells = new int[MOST_MOUTHS];
        final boolean[] shut = new boolean[MOST_MOUTHS];

        int add(int cell) {
            cells[count] = cell;
            shut[count] = false;
            count++;
            return count - 1;
        }

        int numberAt(int cell) {
            for (int m = 0; m < count; m++) {
                if (cells[m] == cell) {
                    return m;
                }
            }
            return NONE;
        }

        int shutCount() {
            int many = 0;
            for (int m = 0; m < count; m++) {
                if (shut[m]) {
                    many++;
                }
            }
            return many;
        }

        void takeMouths(Mouths other) {
            count = other.count;
            for (int m = 0; m < count; m++) {
                cells[m] = other.cells[m];
                shut[m] = other.shut[m];
            }
        }
    }

    /** The cells, and the ways between them: 20 to the east, then 20 to the south. */
    private static final class Lagoon {
        final int[] depth = new int[CELLS];
        final int[] level = new int[CELLS];
        final int[] wall = new int[CELLS];
        final int[] ran = new int[CELLS];
        final int[] bridge = new int[WAYS];
        final boolean[] closed = new boolean[WAYS];
        final boolean[] narrow = new boolean[WAYS];
        private final int[] levelBefore = new int[CELLS];

        Lagoon() {
            Arrays.fill(depth, 20);
            Arrays.fill(wall, 1_000);
            Arrays.fill(bridge, NONE);
        }

        /** The number of the way between two cells; NONE, if they are no cells or not beside one another. */
        static int wayBetween(int a, int b) {
            if (!isCell(a) || !isCell(b)) {
                return NONE;
            }
            int low = Math.min(a, b);
            int apart = Math.max(a, b) - low;
            if (apart == 1 && low % SIDE < SIDE - 1) {
                return low - low / SIDE;
            }
            return apart == SIDE ? WAYS_EAST + low : NONE;
        }

        static int lowEnd(int way) {
            return way < WAYS_EAST ? way + way / (SIDE - 1) : way - WAYS_EAST;
        }

        static int highEnd(int way) {
            return way < WAYS_EAST ? way + way / (SIDE - 1) + 1 : way - WAYS_EAST + SIDE;
        }

        int greatestLevel() {
            int greatest = level[0];
            for (int c = 1; c < CELLS; c++) {
                greatest = Math.max(greatest, level[c]);
            }
            return greatest;
        }

        int sumOfLevels() {
            int sum = 0;
            for (int c = 0; c < CELLS; c++) {
                sum += level[c];
            }
            return sum;
        }

        void flow() {
            System.arraycopy(level, 0, levelBefore, 0, CELLS);
            for (int way = 0; way < WAYS; way++) {
                if (!closed[way]) {
                    int a = lowEnd(way);
                    int b = highEnd(way);
                    int stream = (levelBefore[a] - levelBefore[b]) / 4;
                    level[a] -= stream;
                    level[b] += stream;
                    ran[a] += Math.abs(stream);
                    ran[b] += Math.abs(stream);
                }
            }
        }

        boolean passes(Boat boat, int way) {
            int a = lowEnd(way);
            int b = highEnd(way);
            if (closed[way] || level[a] + depth[a] < boat.draught || level[b] + depth[b] < boat.draught) {
                return false;
            }
            return bridge[way] == NONE || boat.height + Math.max(level[a], level[b]) <= bridge[way];
        }

        int wear(int cell, int speed) {
            int worn = Math.min(wall[cell], speed * speed / 4);
            wall[cell] -= worn;
            return worn;
        }

        void endDay(int calm) {
            for (int c = 0; c < CELLS; c++) {
                if (ran[c] < calm && depth[c] > 0) {
                    depth[c]--;
                }
                ran[c] = 0;
            }
        }

        void takeLagoon(Lagoon other) {
            System.arraycopy(other.depth, 0, depth, 0, CELLS);
            System.arraycopy(other.level, 0, level, 0, CELLS);
            System.arraycopy(other.wall, 0, wall, 0, CELLS);
            System.arraycopy(other.ran, 0, ran, 0, CELLS);
            System.arraycopy(other.bridge, 0, bridge, 0, WAYS);
            for (int way = 0; way < WAYS; way++) {
                closed[way] = other.closed[way];
                narrow[way] = other.narrow[way];
            }
        }
    }

    /** Which cells one boat can go to from each cell; sets of cells are kept as bits. */
    private static final class Chart {
        private final int[] beside = new int[CELLS];

        void draw(Lagoon lagoon, Boat boat) {
            Arrays.fill(beside, 0);
            for (int way = 0; way < WAYS; way++) {
                if (lagoon.passes(boat, way)) {
                    int a = Lagoon.lowEnd(way);
                    int b = Lagoon.highEnd(way);
                    beside[a] |= 1 << b;
                    beside[b] |= 1 << a;
                }
            }
        }

        /** The cells of a set, and all that are one way from it. */
        int spread(int cells) {
            int wider = cells;
            for (int c = 0; c < CELLS; c++) {
                if ((cells >> c & 1) == 1) {
                    wider |= beside[c];
                }
            }
            return wider;
        }

        int firstStep(int from, int to) {
            int near = 1 << to;
            for (int ways = 1; ways < CELLS; ways++) {
                // what touches the goal's surroundings first lies on a shortest way
                int steps = beside[from] & near;
                if (steps != 0) {
                    return leastOf(steps);
                }
                int wider = spread(near);
                if (wider == near) {
                    return NONE;
                }
                near = wider;
            }
            return NONE;
        }

        private static int leastOf(int cells) {
            for (int c = 0; c < CELLS; c++) {
                if ((cells >> c & 1) == 1) {
                    return c;
                }
            }
            return NONE;
        }
    }

    /** A house, a shop or a well. */
    private static final class House {
        int kind;
        int cell;
        int floor;
        int sink;
        int goods;
        int sank;
        int wetQuarters;
        int loss;
        int salt;
        boolean wet;

        void build(int newKind, int newCell, int newFloor, int newSink, int newGoods) {
            kind = newKind;
            cell = newCell;
            floor = newFloor;
            sink = newSink;
            goods = newGoods;
            sank = 0;
            wetQuarters = 0;
            loss = 0;
            salt = 0;
            wet = false;
        }

        void meet(int level) {
            wet = level > floor - sank;
            if (wet) {
                wetQuarters++;
                loss += kind == SHOP ? goods : 0;
                salt += kind == WELL ? 2 : 0;
            } else if (salt > 0) {
                salt--;
            }
        }

        void endDay(int day) {
            if (sink > 0 && day % sink == 0) {
                sank++;
            }
        }

        int tell(int what) {
            switch (what) {
                case 0: return kind;
                case 1: return cell;
                case 2: return floor;
                case 3: return sank;
                case 4: return wetQuarters;
                case 5: return loss;
                case 6: return salt;
                case 7: return wet ? 1 : 0;
                default: return NONE;
            }
        }

        void takeHouse(House other) {
            build(other.kind, other.cell, other.floor, other.sink, other.goods);
            sank = other.sank;
            wetQuarters = other.wetQuarters;
            loss = other.loss;
            salt = other.salt;
            wet = other.wet;
        }
    }

    /** A boat, and what it has done. */
    private static final class Boat {
        int cell;
        int draught;
        int height;
        int speed;
        int rank;
        int goal = NONE;
        int waited;
        int arrived;
        int wore;
        int went;

        void launch(int newCell, int newDraught, int newHeight, int newSpeed, int newRank) {
            cell = newCell;
            draught = newDraught;
            height = newHeight;
            speed = newSpeed;
            rank = newRank;
            goal = NONE;
            waited = 0;
            arrived = 0;
            wore = 0;
            went = 0;
        }

        int tell(int what) {
            switch (what) {
                case 0: return cell;
                case 1: return goal;
                case 2: return waited;
                case 3: return arrived;
                case 4: return wore;
                case 5: return went;
                default: return NONE;
            }
        }

        void takeBoat(Boat other) {
            launch(other.cell, other.draught, other.height, other.speed, other.rank);
            goal = other.goal;
            waited = other.waited;
            arrived = other.arrived;
            wore = other.wore;
            went = other.went;
        }
    }

    /** A law for one mouth: its expression, with each sign behind what it joins, so that no brackets are left. */
    private static final class Law {
        static final int NOT = -1;
        static final int AND = -2;
        static final int OR = -3;
        private static final int SIGNS = 3;
        private static final int NUMBERS = 1_000;

        int mouth;
        boolean inForce;
        private int length;
        private final int[] code = new int[ELEMENTS];

        void begin() {
            inForce = true;
            length = 0;
        }

        void write(int step) {
            if (length < ELEMENTS) {
                code[length] = step;
                length++;
            }
        }

        void writeTest(int field, int sign, int number) {
            write((field * SIGNS + sign) * NUMBERS + number);
        }

        boolean holdsFor(int[] fields) {
            // one bit a value, the latest lowest: 20 brackets leave at most 43 values open
            long values = 0L;
            for (int i = 0; i < length; i++) {
                long latest = values & 1L;
                if (code[i] >= 0) {
                    values = values << 1 | (testHolds(code[i], fields) ? 1L : 0L);
                } else if (code[i] == NOT) {
                    values ^= 1L;
                } else if (code[i] == AND) {
                    values = values >>> 1 & (latest | ~1L);
                } else {
                    values = values >>> 1 | latest;
                }
            }
            return (values & 1L) == 1L;
        }

        private static boolean testHolds(int test, int[] fields) {
            int field = test / NUMBERS / SIGNS;
            if (field < 0 || field >= fields.length) {
                return false;
            }
            int number = test % NUMBERS;
            switch (test / NUMBERS % SIGNS) {
                case 0: return fields[field] < number;
                case 1: return fields[field] > number;
                default: return fields[field] == number;
            }
        }

        void takeLaw(Law other) {
            mouth = other.mouth;
            inForce = other.inForce;
            length = other.length;
            System.arraycopy(other.code, 0, code, 0, ELEMENTS);
        }
    }

    /** Reads a row of letters as a law, and finds the first place at which it can't be one. */
    private static final class LawReader {
        private static final int DEEPEST = 20;
        private static final int END = -1;

        final Law draft = new Law();
        private final int[] letters = new int[ELEMENTS];
        private int size;
        private int place;

        /** NONE, if the row is a law (it is the draft then), else its fault. */
        int read(Shelf row) {
            size = row.size;
            for (int i = 0; i < size; i++) {
                letters[i] = (int) row.elements[i];
            }
            place = 0;
            draft.begin();
            boolean isLaw = readMouth() && readEither(0) && place == size;
            return isLaw ? NONE : place;
        }

        private int here() {
            return place >= 0 && place < size ? letters[place] : END;
        }

        private boolean step(int letter) {
            if (here() != letter) {
                return false;
            }
            place++;
            return true;
        }

        private boolean readMouth() {
            if (!step('g')) {
                return false;
            }
            if (here() < '0' || here() > '2') {
                return false;
            }
            draft.mouth = here() - '0';
            place++;
            return step(':');
        }

        private boolean readEither(int depth) {
            boolean good = readBoth(depth);
            for (int i = 0; i < ELEMENTS && good && step('|'); i++) {
                good = readBoth(depth);
                draft.write(Law.OR);
            }
            return good;
        }

        private boolean readBoth(int depth) {
            boolean good = readPart(depth);
            for (int i = 0; i < ELEMENTS && good && step('&'); i++) {
                good = readPart(depth);
                draft.write(Law.AND);
            }
            return good;
        }

        private boolean readPart(int depth) {
            if (here() != '!' && here() != '(') {
                return readTest();
            }
            if (depth >= DEEPEST) {
                return false;
            }
            if (step('(')) {
                return readEither(depth + 1) && step(')');
            }
            place++;
            boolean good = readPart(depth + 1);
            draft.write(Law.NOT);
            return good;
        }

        private boolean readTest() {
            int field = fieldOf(here());
            if (field == NONE) {
                return false;
            }
            place++;
            int sign = signOf(here());
            if (sign == NONE) {
                return false;
            }
            place++;
            int number = readNumber();
            if (number == NONE) {
                return false;
            }
            draft.writeTest(field, sign, number);
            return true;
        }

        private int readNumber() {
            if (!isDigit(here())) {
                return NONE;
            }
            int number = here() - '0';
            place++;
            // behind a 0 ahead, number stays 0: no digit may follow it
            for (int digits = 1; digits < 3 && number > 0 && isDigit(here()); digits++) {
                number = number * 10 + here() - '0';
                place++;
            }
            return number;
        }

        private static boolean isDigit(int letter) {
            return letter >= '0' && letter <= '9';
        }

        private static int fieldOf(int letter) {
            switch (letter) {
                case 'f': return FIELD_F;
                case 's': return FIELD_S;
                case 'l': return FIELD_L;
                case 'h': return FIELD_H;
                case 'w': return FIELD_W;
                case 'd': return FIELD_D;
                default: return NONE;
            }
        }

        private static int signOf(int letter) {
            switch (letter) {
                case '<': return 0;
                case '>': return 1;
                case '=': return 2;
                default: return NONE;
            }
        }
    }

    /** All that the image keeps, and how a quarter of it is lived. */
    private static final class City {
        final Lagoon lagoon = new Lagoon();
        final Mouths mouths = new Mouths();
        final Law[] laws = new Law[MOST_LAWS];
        final House[] houses = new House[MOST_HOUSES];
        final Boat[] boats = new Boat[MOST_BOATS];
        int lawCount;
        int houseCount;
        int boatCount;
        final Tide sea = new Tide();
        final Tide forecast = new Tide();
        int miss;
        int limit = 9;
        int calm;
        int now;
        int tooLate;
        int inVain;
        int came;
        final Chart chart = new Chart();
        final int[] fields = new int[FIELDS];
        private final boolean[] crossed = new boolean[WAYS];

        City() {
            for (int k = 0; k < MOST_LAWS; k++) {
                laws[k] = new Law();
            }
            for (int h = 0; h < MOST_HOUSES; h++) {
                houses[h] = new House();
            }
            for (int b = 0; b < MOST_BOATS; b++) {
                boats[b] = new Boat();
            }
        }

        Tide tide(boolean foretelling) {
            return foretelling ? forecast : sea;
        }

        /** What the fields of laws are in the quarter now. */
        void lookAround() {
            int greatest = forecast.heightIn(now);
            for (int i = 1; i < QUARTERS_AHEAD; i++) {
                greatest = Math.max(greatest, forecast.heightIn(now + i));
            }
            fields[FIELD_F] = greatest + miss;
            fields[FIELD_S] = forecast.heightIn(now);
            fields[FIELD_L] = lagoon.greatestLevel();
            fields[FIELD_H] = now / 4 % 24;
            fields[FIELD_W] = boatsWithGoal();
            fields[FIELD_D] = now / DAY;
        }

        /** Parts 1 to 3 of a quarter: laws, mouths, flow. */
        void liveWaters(boolean foretelling) {
            lookAround();
            keepLaws();
            int height = tide(foretelling).heightIn(now);
            if (mouths.shutCount() > 0 && height <= fields[FIELD_L]) {
                inVain++;
            }
            for (int m = 0; m < mouths.count; m++) {
                if (!mouths.shut[m]) {
                    int c = mouths.cells[m];
                    int more = (height - lagoon.level[c]) / 2;
                    lagoon.level[c] += more;
                    came += more;
                }
            }
            lagoon.flow();
        }

        /** Parts 4 to 6 of a quarter: boats, houses, time. */
        void livePeople() {
            sailAll();
            boolean someWet = false;
            for (int h = 0; h < houseCount; h++) {
                houses[h].meet(lagoon.level[houses[h].cell]);
                someWet = someWet || houses[h].wet;
            }
            if (someWet && mouths.shutCount() == 0) {
                tooLate++;
            }
            now++;
            if (now % DAY == 0) {
                lagoon.endDay(calm);
                for (int h = 0; h < houseCount; h++) {
                    houses[h].endDay(now / DAY);
                }
            }
        }

        private void keepLaws() {
            for (int m = 0; m < mouths.count; m++) {
                boolean ruled = false;
                boolean shut = false;
                for (int k = 0; k < lawCount; k++) {
                    if (laws[k].inForce && laws[k].mouth == m) {
                        ruled = true;
                        shut = shut || laws[k].holdsFor(fields);
                    }
                }
                if (ruled) {
                    mouths.shut[m] = shut;
                }
            }
        }

        private void sailAll() {
            for (int way = 0; way < WAYS; way++) {
                crossed[way] = false;
            }
            for (int rank = 9; rank >= 0; rank--) {
                for (int b = 0; b < boatCount; b++) {
                    if (boats[b].rank == rank && boats[b].goal != NONE) {
                        sailOne(boats[b]);
                    }
                }
            }
        }

        private void sailOne(Boat boat) {
            int next = nextCell(boat);
            int way = Lagoon.wayBetween(boat.cell, next);
            if (way == NONE || lagoon.narrow[way] && crossed[way]) {
                boat.waited++;
                return;
            }
            crossed[way] = true;
            boat.cell = next;
            boat.went++;
            boat.wore += lagoon.wear(next, Math.min(boat.speed, limit));
            if (next == boat.goal) {
                boat.goal = NONE;
                boat.arrived++;
            }
        }

        int nextCell(Boat boat) {
            if (boat.goal == NONE) {
                return NONE;
            }
            chart.draw(lagoon, boat);
            return chart.firstStep(boat.cell, boat.goal);
        }

        int boatsWithGoal() {
            int many = 0;
            for (int b = 0; b < boatCount; b++) {
                if (boats[b].goal != NONE) {
                    many++;
                }
            }
            return many;
        }

        int lawsInForce() {
            int many = 0;
            for (int k = 0; k < lawCount; k++) {
                if (laws[k].inForce) {
                    many++;
                }
            }
            return many;
        }

        void enforce(int set) {
            for (int k = 0; k < lawCount; k++) {
                laws[k].inForce = (set >> k & 1) == 1;
            }
        }

        /** What best laws are to make grow least. */
        int troubles() {
            int sum = 0;
            for (int h = 0; h < houseCount; h++) {
                sum += 10 * houses[h].wetQuarters;
            }
            for (int b = 0; b < boatCount; b++) {
                sum += boats[b].waited;
            }
            return sum;
        }

        void takeCity(City other) {
            lagoon.takeLagoon(other.lagoon);
            mouths.takeMouths(other.mouths);
            sea.takeTide(other.sea);
            forecast.takeTide(other.forecast);
            lawCount = other.lawCount;
            for (int k = 0; k < lawCount; k++) {
                laws[k].takeLaw(other.laws[k]);
            }
            houseCount = other.houseCount;
            for (int h = 0; h < houseCount; h++) {
                houses[h].takeHouse(other.houses[h]);
            }
            boatCount = other.boatCount;
            for (int b = 0; b < boatCount; b++) {
                boats[b].takeBoat(other.boats[b]);
            }
            miss = other.miss;
            limit = other.limit;
            calm = other.calm;
            now = other.now;
            tooLate = other.tooLate;
            inVain = other.inVain;
            came = other.came;
        }
    }
}
