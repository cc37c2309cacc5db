/** Leather, straps between rings, saddles on backs, and what rides make of them; README.md says how to use it. */
public final class Saddletree {
    public static final int NONE = -1;
    public static final int BY_SADDLE = 0, BY_RIDER = 1, BY_GAIT = 2;

    private static final int MOST_HIDES = 8;
    private static final int THINNEST_HIDE = 2, THICKEST_HIDE = 9;
    private static final int COLUMNS = 12, ROWS = 8;
    private static final int BACK_END = 2, BELLY_START = 5;

    private static final int MOST_PARTS = 40;
    private static final int PLACES_A_COLUMN = 4;
    private static final int FROM_END = 3;
    private static final int MOST_SEAMS = 4;
    private static final int MOST_PRICKS = 12, MOST_THREAD = 50;
    private static final int PRICKS_THAT_TEAR = 20;
    private static final int LAST_WHAT_OF_PART = 10;

    private static final int RINGS = 8;
    private static final int MOST_FORCE = 9999;

    private static final int HORSES = 6, SADDLES = 6, RIDERS = 4, GAITS = 3, SECTIONS = 7;
    private static final int HIGHEST = 50;
    private static final int MOST_FLOCK = 20;
    private static final int MOST_WEIGHT = 3000;
    private static final int PRESSURE_A_DEPTH = 4;

    private static final int MOST_RIDES = 60;
    private static final int MOST_RIDER_WEIGHT = 1000;
    private static final int MOST_HOURS = 10;
    private static final int MOST_DAYS = 100;
    private static final int SORE_ABOVE = 40, SETTLES_ABOVE = 20;
    private static final int LAME_FROM = 100;
    private static final int HEALED_A_DAY = 10;
    private static final int LAST_WHAT_OF_SORE = 2;
    private static final int BYS = 3;
    private static final int SHARERS = 6;

    private final Hide[] hides;
    private int hideCount;
    private final Part[] parts;
    private int partCount;
    private final Route route;
    private final Horse[] horses;
    private final Saddle[] saddles;
    private final Seat seat;
    private int rideCount;

    public Saddletree() {
        hides = new Hide[MOST_HIDES];
        parts = new Part[MOST_PARTS];
        route = new Route();
        horses = new Horse[HORSES];
        for (int i = 0; i < HORSES; i++) {
            horses[i] = new Horse();
        }
        saddles = new Saddle[SADDLES];
        for (int i = 0; i < SADDLES; i++) {
            saddles[i] = new Saddle();
        }
        seat = new Seat();
    }

    // ---- hides, parts

    public int hide(int thickness) throws IllegalArgumentException, IllegalStateException {
        checkArgument(thickness, THINNEST_HIDE, THICKEST_HIDE);
        if (hideCount >= MOST_HIDES) {
            throw new IllegalStateException("there are 8 hides");
        }
        int number = hideCount;
        hides[number] = new Hide(thickness);
        hideCount++;
        return number;
    }

    public int fault(int hide, int column, int row) throws IndexOutOfBoundsException {
        Hide faulty = hideAt(hide);
        checkIndex(column, COLUMNS);
        checkIndex(row, ROWS);
        faulty.spoil(column, row, 1, 1);
        return faulty.squaresLeft();
    }

    public int cut(int hide, int column, int row, int along, int wide, boolean isStrap)
            throws IndexOutOfBoundsException, IllegalArgumentException, IllegalStateException {
        Hide from = hideAt(hide);
        checkIndex(column, COLUMNS);
        checkIndex(row, ROWS);
        checkArgument(along, 1, COLUMNS - column);
        checkArgument(wide, 1, ROWS - row);
        if (!from.canGive(column, row, along, wide, isStrap)) {
            throw new IllegalStateException("it cannot be cut there");
        }
        if (partCount >= MOST_PARTS) {
            throw new IllegalStateException("there were 40 parts");
        }
        int number = partCount;
        parts[number] = new Part(along, wide, row, from.thinnest(row, wide), isStrap);
        partCount++;
        from.spoil(column, row, along, wide);
        return number;
    }

    public int find(int hide, int along, int wide, boolean isStrap, int least)
            throws IndexOutOfBoundsException, IllegalArgumentException {
        Hide in = hideAt(hide);
        checkArgument(along, 1, COLUMNS);
        checkArgument(wide, 1, ROWS);
        checkArgument(least, 1, THICKEST_HIDE);
        return in.leastWorth(along, wide, isStrap, least);
    }

    public int skive(int part, int thickness)
            throws IndexOutOfBoundsException, IllegalArgumentException, IllegalStateException {
        Part skived = partAt(part);
        checkArgument(thickness, 1, skived.thickness - 1);
        if (skived.seams > 0) {
            throw new IllegalStateException("it is in a seam");
        }
        int before = skived.thickness;
        skived.thickness = thickness;
        return before;
    }

    public int pierce(int part, int place)
            throws IndexOutOfBoundsException, IllegalArgumentException, IllegalStateException {
        Part pierced = partAt(part);
        checkArgument(place, FROM_END, PLACES_A_COLUMN * pierced.columns - FROM_END);
        if (pierced.hasHoleNear(place)) {
            throw new IllegalStateException("it is too near to another hole");
        }
        if (pierced.seams > 0 || pierced.isBuckled() || pierced.broke) {
            throw new IllegalStateException("it is in a seam, buckled, or broke");
        }
        return pierced.addHole(place);
    }

    public boolean match(int one, int other) throws IndexOutOfBoundsException {
        Part first = partAt(one);
        Part second = partAt(other);
        return first.isStrap == second.isStrap
                && first.columns == second.columns
                && first.rows == second.rows
                && first.thickness == second.thickness
                && first.firstRow == second.firstRow;
    }

    public int part(int part, int what) throws IndexOutOfBoundsException, IllegalArgumentException {
        Part told = partAt(part);
        checkArgument(what, 0, LAST_WHAT_OF_PART);
        switch (what) {
            case 0: return told.columns;
            case 1: return told.rows;
            case 2: return told.thickness;
            case 3: return told.firstRow;
            case 4: return told.holeCount;
            case 5: return told.wear;
            case 6: return told.strength();
            case 7: return told.lowerRing;
            case 8: return told.upperRing;
            case 9: return told.length;
            default: return told.broke ? 1 : 0;
        }
    }

    // ---- rings, pulls

    public int buckle(int part, int ring, int other, int hole)
            throws IndexOutOfBoundsException, IllegalArgumentException, IllegalStateException {
        Part strap = partAt(part);
        checkIndex(ring, RINGS);
        checkIndex(other, RINGS);
        checkIndex(hole, strap.holeCount);
        checkDifferent(ring, other);
        if (!strap.isStrap || strap.isBuckled() || strap.broke) {
            throw new IllegalStateException("it is no strap, is buckled, or broke");
        }
        strap.lowerRing = Math.min(ring, other);
        strap.upperRing = Math.max(ring, other);
        strap.length = strap.placeOf(hole);
        return strap.length;
    }

    public int unbuckle(int part) throws IndexOutOfBoundsException, IllegalStateException {
        Part strap = partAt(part);
        if (!strap.isBuckled()) {
            throw new IllegalStateException("it is not buckled");
        }
        int before = strap.length;
        strap.letGo();
        return before;
    }

    public int bears(int part, int from, int to, int force)
            throws IndexOutOfBoundsException, IllegalArgumentException {
        Part borne = partAt(part);
        checkRings(from, to);
        checkArgument(force, 1, MOST_FORCE);
        route.look(parts, from, to);
        return route.burden(borne, force);
    }

    public int way(int from, int to, int place) throws IndexOutOfBoundsException, IllegalArgumentException {
        checkIndex(from, RINGS);
        checkIndex(to, RINGS);
        if (place < 0) {
            throw new IndexOutOfBoundsException("place is below 0");
        }
        checkDifferent(from, to);
        route.look(parts, from, to);
        return route.ringAt(place);
    }

    public int pull(int from, int to, int force)
            throws IndexOutOfBoundsException, IllegalArgumentException, IllegalStateException {
        checkRings(from, to);
        checkArgument(force, 1, MOST_FORCE);
        route.look(parts, from, to);
        if (!route.exists()) {
            throw new IllegalStateException("there is no way");
        }
        int broken = breakStraps(from, to, force);
        wearStraps(force);
        return broken;
    }

    public int holds(int from, int to) throws IndexOutOfBoundsException, IllegalArgumentException {
        checkRings(from, to);
        route.look(parts, from, to);
        if (!route.exists()) {
            return NONE;
        }
        int most = MOST_FORCE;
        for (int i = 0; i < partCount; i++) {
            Part strap = parts[i];
            if (strap != null && route.isBearing(strap)) {
                most = Math.min(most, route.mostFor(strap));
            }
        }
        return most;
    }

    public int oil(int part) throws IndexOutOfBoundsException {
        Part oiled = partAt(part);
        oiled.wear = oiled.wear / 2;
        return oiled.wear;
    }

    public int sew(int one, int other, int pricks, int thread)
            throws IndexOutOfBoundsException, IllegalArgumentException, IllegalStateException {
        Part first = partAt(one);
        Part second = partAt(other);
        checkDifferent(one, other);
        checkArgument(pricks, 1, MOST_PRICKS);
        checkArgument(thread, 1, MOST_THREAD);
        if (!first.canBeSewn() || !second.canBeSewn()) {
            throw new IllegalStateException("one has 4 seams, is buckled, or broke");
        }
        first.seams++;
        second.seams++;
        int columns = Math.min(first.columns, second.columns);
        int thickness = Math.min(first.thickness, second.thickness);
        int byThread = pricks * columns * thread;
        int byLeather = thickness * (PRICKS_THAT_TEAR - pricks) * columns;
        return Math.min(byThread, byLeather);
    }

    // ---- saddles

    public int back(int horse, int section, int height) throws IndexOutOfBoundsException, IllegalArgumentException {
        Horse changed = horseAt(horse);
        checkIndex(section, SECTIONS);
        checkArgument(height, -HIGHEST, HIGHEST);
        int before = changed.heights[section];
        changed.heights[section] = height;
        return before;
    }

    public int tree(int saddle, int section, int height) throws IndexOutOfBoundsException, IllegalArgumentException {
        Saddle changed = saddleAt(saddle);
        checkIndex(section, SECTIONS);
        checkArgument(height, -HIGHEST, HIGHEST);
        int before = changed.heights[section];
        changed.heights[section] = height;
        return before;
    }

    public int flock(int saddle, int section, int flock) throws IndexOutOfBoundsException, IllegalArgumentException {
        Saddle changed = saddleAt(saddle);
        checkIndex(section, SECTIONS);
        checkArgument(flock, 0, MOST_FLOCK);
        int before = changed.flocks[section];
        changed.flocks[section] = flock;
        return before;
    }

    public int sinks(int horse, int saddle, int weight) throws IndexOutOfBoundsException, IllegalArgumentException {
        measureGaps(horse, saddle, weight);
        return seat.depthBySearch(weight);
    }

    public int sinksAnew(int horse, int saddle, int weight)
            throws IndexOutOfBoundsException, IllegalArgumentException {
        measureGaps(horse, saddle, weight);
        return seat.depthByGaps(weight);
    }

    public int pressure(int horse, int saddle, int weight, int section)
            throws IndexOutOfBoundsException, IllegalArgumentException {
        checkIndex(section, SECTIONS);
        measureGaps(horse, saddle, weight);
        return seat.pressureAt(section, seat.depthBySearch(weight));
    }

    public int bridges(int horse, int saddle, int weight) throws IndexOutOfBoundsException, IllegalArgumentException {
        measureGaps(horse, saddle, weight);
        return seat.bridgeBits(seat.depthBySearch(weight));
    }

    // ---- rides

    public int ride(int horse, int saddle, int rider, int weight, int gait, int hours)
            throws IndexOutOfBoundsException, IllegalArgumentException, IllegalStateException {
        Horse ridden = horseAt(horse);
        Saddle under = saddleAt(saddle);
        checkIndex(rider, RIDERS);
        checkArgument(weight, 1, MOST_RIDER_WEIGHT);
        checkArgument(gait, 1, GAITS);
        checkArgument(hours, 1, MOST_HOURS);
        if (ridden.isLame()) {
            throw new IllegalStateException("the horse is lame");
        }
        if (rideCount >= MOST_RIDES) {
            throw new IllegalStateException("there were 60 rides");
        }
        rideCount++;
        seat.measure(ridden, under);
        int depth = seat.depthBySearch(weight * gait);
        int sorer = 0;
        for (int section = 0; section < SECTIONS; section++) {
            // the gaps were measured ahead of the loop, so flock that settles here changes no pressure of this ride
            int pressed = seat.pressureAt(section, depth);
            int amount = Math.max(0, pressed - SORE_ABOVE) * hours;
            if (amount > 0) {
                ridden.makeSorer(section, amount, saddle, rider, gait);
                sorer++;
            }
            if (pressed > SETTLES_ABOVE) {
                under.settle(section);
            }
        }
        return sorer;
    }

    public int rest(int days) throws IllegalArgumentException {
        checkArgument(days, 1, MOST_DAYS);
        int lame = 0;
        for (Horse resting : horses) {
            if (resting != null) {
                resting.heal(days * HEALED_A_DAY);
                lame += resting.isLame() ? 1 : 0;
            }
        }
        return lame;
    }

    public int sore(int horse, int section, int what) throws IndexOutOfBoundsException, IllegalArgumentException {
        Horse told = horseAt(horse);
        checkIndex(section, SECTIONS);
        checkArgument(what, 0, LAST_WHAT_OF_SORE);
        if (what == 0) {
            return told.sores[section];
        }
        if (what == 1) {
            return told.heights[section];
        }
        return told.isLame() ? 1 : 0;
    }

    public int share(int horse, int section, int by, int who)
            throws IndexOutOfBoundsException, IllegalArgumentException {
        Horse told = horseAt(horse);
        checkIndex(section, SECTIONS);
        checkArgument(by, BY_SADDLE, BY_GAIT);
        return told.blameOf(section, by, who);
    }

    public int cause(int horse, int section, int by) throws IndexOutOfBoundsException, IllegalArgumentException {
        Horse told = horseAt(horse);
        checkIndex(section, SECTIONS);
        checkArgument(by, BY_SADDLE, BY_GAIT);
        int greatest = 0;
        int found = NONE;
        for (int who = 0; who < SHARERS; who++) {
            int blame = told.blameOf(section, by, who);
            if (blame > greatest) {
                greatest = blame;
                found = who;
            }
        }
        return found;
    }

    public int rides() {
        return rideCount;
    }

    // ---- what the calls above share

    /** Breaks straps one by one until the way holds or there is none; the route stands on the last way then. */
    private int breakStraps(int from, int to, int force) {
        int broken = 0;
        for (int round = 0; round < MOST_PARTS; round++) {
            Part weakest = firstOverborne(force);
            if (weakest == null) {
                return broken;
            }
            weakest.snap();
            broken++;
            route.look(parts, from, to);
        }
        return broken;
    }

    private Part firstOverborne(int force) {
        for (int i = 0; i < partCount; i++) {
            Part strap = parts[i];
            if (strap != null && route.burden(strap, force) > strap.strength()) {
                return strap;
            }
        }
        return null;
    }

    private void wearStraps(int force) {
        for (int i = 0; i < partCount; i++) {
            Part strap = parts[i];
            if (strap != null) {
                strap.wear += route.burden(strap, force) / 10;
            }
        }
    }

    private void measureGaps(int horse, int saddle, int weight) {
        Horse below = horseAt(horse);
        Saddle above = saddleAt(saddle);
        checkArgument(weight, 1, MOST_WEIGHT);
        seat.measure(below, above);
    }

    private Hide hideAt(int number) {
        Hide found = number >= 0 && number < hides.length ? hides[number] : null;
        if (found == null) {
            throw new IndexOutOfBoundsException("there is no such hide");
        }
        return found;
    }

    private Part partAt(int number) {
        Part found = number >= 0 && number < parts.length ? parts[number] : null;
        if (found == null) {
            throw new IndexOutOfBoundsException("there is no such part");
        }
        return found;
    }

    private Horse horseAt(int number) {
        Horse found = number >= 0 && number < horses.length ? horses[number] : null;
        if (found == null) {
            throw new IndexOutOfBoundsException("there is no such horse");
        }
        return found;
    }

    private Saddle saddleAt(int number) {
        Saddle found = number >= 0 && number < saddles.length ? saddles[number] : null;
        if (found == null) {
            throw new IndexOutOfBoundsException("there is no such saddle");
        }
        return found;
    }

    private static void checkIndex(int index, int count) {
        if (index < 0 || index >= count) {
            throw new IndexOutOfBoundsException("there is no such number");
        }
    }

    private static void checkArgument(int value, int least, int most) {
        if (value < least || value > most) {
            throw new IllegalArgumentException("out of range");
        }
    }

    private static void checkDifferent(int one, int other) {
        if (one == other) {
            throw new IllegalArgumentException("both are one");
        }
    }

    private static void checkRings(int from, int to) {
        checkIndex(from, RINGS);
        checkIndex(to, RINGS);
        checkDifferent(from, to);
    }

    private static final class Hide {
        private final int thickness;
        // a square with a fault and one that is cut out are good for nothing alike, so one mark is enough
        private final boolean[] gone;

        Hide(int thickness) {
            this.thickness = thickness;
            gone = new boolean[COLUMNS * ROWS];
        }

        void spoil(int column, int row, int along, int wide) {
            for (int r = row; r < row + wide; r++) {
                for (int c = column; c < column + along; c++) {
                    gone[r * COLUMNS + c] = true;
                }
            }
        }

        int squaresLeft() {
            int left = 0;
            for (boolean isGone : gone) {
                left += isGone ? 0 : 1;
            }
            return left;
        }

        int thinnest(int row, int wide) {
            return reachesBelly(row, wide) ? thickness - 1 : thickness;
        }

        boolean canGive(int column, int row, int along, int wide, boolean isStrap) {
            return !(isStrap && reachesBelly(row, wide)) && isWhole(column, row, along, wide);
        }

        int leastWorth(int along, int wide, boolean isStrap, int least) {
            int found = NONE;
            int foundWorth = 0;
            for (int row = 0; row + wide <= ROWS; row++) {
                int worth = worth(row, along, wide);
                boolean isBetter = found == NONE || worth < foundWorth;
                int column = isBetter && thinnest(row, wide) >= least
                        ? firstColumn(row, along, wide, isStrap)
                        : NONE;
                if (column != NONE) {
                    found = COLUMNS * row + column;
                    foundWorth = worth;
                }
            }
            return found;
        }

        private int firstColumn(int row, int along, int wide, boolean isStrap) {
            for (int column = 0; column + along <= COLUMNS; column++) {
                if (canGive(column, row, along, wide, isStrap)) {
                    return column;
                }
            }
            return NONE;
        }

        private boolean isWhole(int column, int row, int along, int wide) {
            for (int r = row; r < row + wide; r++) {
                for (int c = column; c < column + along; c++) {
                    if (gone[r * COLUMNS + c]) {
                        return false;
                    }
                }
            }
            return true;
        }

        private static boolean reachesBelly(int row, int wide) {
            return row + wide > BELLY_START;
        }

        private static int worth(int row, int along, int wide) {
            int together = 0;
            for (int r = row; r < row + wide; r++) {
                int ofSquare = r < BACK_END ? 3 : r < BELLY_START ? 2 : 1;
                together += along * ofSquare;
            }
            return together;
        }
    }

    private static final class Part {
        private final int columns;
        private final int rows;
        private final int firstRow;
        private final boolean isStrap;
        private final boolean[] holes;
        private int thickness;
        private int holeCount;
        private int wear;
        private int seams;
        private int lowerRing;
        private int upperRing;
        private int length;
        private boolean broke;

        Part(int columns, int rows, int firstRow, int thickness, boolean isStrap) {
            this.columns = columns;
            this.rows = rows;
            this.firstRow = firstRow;
            this.thickness = thickness;
            this.isStrap = isStrap;
            holes = new boolean[PLACES_A_COLUMN * COLUMNS + 1];
            lowerRing = NONE;
            upperRing = NONE;
            length = NONE;
        }

        boolean hasHoleNear(int place) {
            return holes[place - 1] || holes[place] || holes[place + 1];
        }

        int addHole(int place) {
            holes[place] = true;
            holeCount++;
            int number = 0;
            for (int p = 0; p < place; p++) {
                number += holes[p] ? 1 : 0;
            }
            return number;
        }

        int placeOf(int hole) {
            int left = hole;
            for (int place = 0; place < holes.length; place++) {
                if (holes[place]) {
                    if (left == 0) {
                        return place;
                    }
                    left--;
                }
            }
            return NONE;
        }

        int strength() {
            int whole = 10 * rows * thickness;
            int pierced = holeCount > 0 ? whole * 3 / 4 : whole;
            return Math.max(0, pierced - wear);
        }

        boolean isBuckled() {
            return length != NONE;
        }

        boolean canBeSewn() {
            return seams < MOST_SEAMS && !isBuckled() && !broke;
        }

        void letGo() {
            lowerRing = NONE;
            upperRing = NONE;
            length = NONE;
        }

        void snap() {
            broke = true;
            letGo();
        }
    }

    /** The way of a pull and how its straps share it; made once and looked for anew by each call. */
    private static final class Route {
        private static final int FAR = 1000000;
        // a way of all rings has 7 steps, so steps counted in sixteenths of a length never outweigh a length
        private static final int STEPS_A_LENGTH = 16;

        // by pairs of rings, in both orders; a length 0 stands for no strap
        private final int[] shortest;
        private final int[] sharing;
        private final boolean[] isTaken;
        private final int[] toGoal;
        private final int[] rings;
        private int ringCount;

        Route() {
            shortest = new int[RINGS * RINGS];
            sharing = new int[RINGS * RINGS];
            isTaken = new boolean[RINGS * RINGS];
            toGoal = new int[RINGS];
            rings = new int[RINGS];
        }

        void look(Part[] parts, int from, int to) {
            clear();
            for (Part part : parts) {
                if (part != null && part.isBuckled()) {
                    note(pair(part.lowerRing, part.upperRing), part.length);
                    note(pair(part.upperRing, part.lowerRing), part.length);
                }
            }
            reckon(to);
            walk(from, to);
        }

        boolean exists() {
            return ringCount > 0;
        }

        int ringAt(int place) {
            return place >= 0 && place < ringCount && place < rings.length ? rings[place] : NONE;
        }

        boolean isBearing(Part part) {
            if (!part.isBuckled()) {
                return false;
            }
            int pair = pair(part.lowerRing, part.upperRing);
            return isTaken[pair] && part.length == shortest[pair];
        }

        int burden(Part part, int force) {
            int sharers = isBearing(part) ? sharing[pair(part.lowerRing, part.upperRing)] : 0;
            return sharers > 0 ? (force + sharers - 1) / sharers : 0;
        }

        int mostFor(Part part) {
            int sharers = isBearing(part) ? sharing[pair(part.lowerRing, part.upperRing)] : 0;
            return sharers * part.strength();
        }

        private static int pair(int one, int other) {
            return one * RINGS + other;
        }

        private void clear() {
            for (int i = 0; i < RINGS * RINGS; i++) {
                shortest[i] = 0;
                sharing[i] = 0;
                isTaken[i] = false;
            }
            ringCount = 0;
        }

        private void note(int pair, int length) {
            if (shortest[pair] == 0 || length < shortest[pair]) {
                shortest[pair] = length;
                sharing[pair] = 0;
            }
            if (length == shortest[pair]) {
                sharing[pair]++;
            }
        }

        /** Fills in how far each ring is from the goal: the least sum, of several the fewest rings. */
        private void reckon(int to) {
            for (int ring = 0; ring < RINGS; ring++) {
                toGoal[ring] = FAR;
            }
            toGoal[to] = 0;
            boolean isNearer = true;
            for (int round = 0; round < RINGS && isNearer; round++) {
                isNearer = false;
                for (int ring = 0; ring < RINGS; ring++) {
                    int best = nearest(ring);
                    if (best < toGoal[ring]) {
                        toGoal[ring] = best;
                        isNearer = true;
                    }
                }
            }
        }

        private int nearest(int ring) {
            int best = FAR;
            for (int next = 0; next < RINGS; next++) {
                best = Math.min(best, through(ring, next));
            }
            return best;
        }

        private int through(int ring, int next) {
            int length = shortest[pair(ring, next)];
            return length > 0 ? length * STEPS_A_LENGTH + 1 + toGoal[next] : FAR;
        }

        private void walk(int from, int to) {
            if (toGoal[from] >= FAR) {
                return;
            }
            int at = from;
            rings[0] = from;
            ringCount = 1;
            for (int place = 1; place < RINGS && at != to; place++) {
                int next = lowestNext(at);
                if (next == NONE) {
                    return;
                }
                isTaken[pair(at, next)] = true;
                isTaken[pair(next, at)] = true;
                rings[place] = next;
                ringCount = place + 1;
                at = next;
            }
        }

        private int lowestNext(int ring) {
            for (int next = 0; next < RINGS; next++) {
                if (through(ring, next) == toGoal[ring]) {
                    return next;
                }
            }
            return NONE;
        }
    }

    private static final class Horse {
        private final int[] heights;
        private final int[] sores;
        private final int[] blames;

        Horse() {
            heights = new int[SECTIONS];
            sores = new int[SECTIONS];
            blames = new int[SECTIONS * BYS * SHARERS];
        }

        boolean isLame() {
            for (int amount : sores) {
                if (amount >= LAME_FROM) {
                    return true;
                }
            }
            return false;
        }

        void heal(int amount) {
            for (int section = 0; section < SECTIONS; section++) {
                sores[section] = Math.max(0, sores[section] - amount);
            }
        }

        void makeSorer(int section, int amount, int saddle, int rider, int gait) {
            sores[section] += amount;
            blame(section, BY_SADDLE, saddle, amount);
            blame(section, BY_RIDER, rider, amount);
            blame(section, BY_GAIT, gait, amount);
        }

        private void blame(int section, int by, int who, int amount) {
            blames[(section * BYS + by) * SHARERS + who] += amount;
        }

        int blameOf(int section, int by, int who) {
            return who >= 0 && who < SHARERS ? blames[(section * BYS + by) * SHARERS + who] : 0;
        }
    }

    private static final class Saddle {
        private final int[] heights;
        private final int[] flocks;

        Saddle() {
            heights = new int[SECTIONS];
            flocks = new int[SECTIONS];
        }

        void settle(int section) {
            flocks[section] = Math.max(0, flocks[section] - 1);
        }
    }

    /** The gaps between one saddle and one back; made once and measured anew by each call. */
    private static final class Seat {
        // far more halvings than any range of depths needs
        private static final int MOST_HALVINGS = 40;

        private final int[] gaps;
        private final int[] sorted;

        Seat() {
            gaps = new int[SECTIONS];
            sorted = new int[SECTIONS];
        }

        void measure(Horse horse, Saddle saddle) {
            for (int section = 0; section < SECTIONS; section++) {
                gaps[section] = saddle.heights[section] - saddle.flocks[section] - horse.heights[section];
            }
        }

        int pressureAt(int section, int depth) {
            return PRESSURE_A_DEPTH * Math.max(0, depth - gaps[section]);
        }

        int depthBySearch(int weight) {
            int least = gaps[0];
            for (int gap : gaps) {
                least = Math.min(least, gap);
            }
            int tooLittle = least;
            // there the section of the least gap bears the weight alone
            int enough = least + (weight + PRESSURE_A_DEPTH - 1) / PRESSURE_A_DEPTH;
            for (int round = 0; round < MOST_HALVINGS && enough - tooLittle > 1; round++) {
                int between = tooLittle + (enough - tooLittle) / 2;
                if (together(between) >= weight) {
                    enough = between;
                } else {
                    tooLittle = between;
                }
            }
            return enough;
        }

        /** Lets the sections of the least gaps bear alone, and one more each time that the depth would pass its gap. */
        int depthByGaps(int weight) {
            sortGaps();
            int sum = 0;
            int depth = 0;
            for (int bearing = 1; bearing <= SECTIONS; bearing++) {
                sum += sorted[bearing - 1];
                int each = PRESSURE_A_DEPTH * bearing;
                depth = Math.floorDiv(weight + PRESSURE_A_DEPTH * sum + each - 1, each);
                if (bearing < SECTIONS && depth <= sorted[bearing]) {
                    return depth;
                }
            }
            return depth;
        }

        int bridgeBits(int depth) {
            int bits = 0;
            for (int section = 1; section < SECTIONS - 1; section++) {
                if (pressureAt(section, depth) == 0
                        && isPressed(0, section, depth)
                        && isPressed(section + 1, SECTIONS, depth)) {
                    bits |= 1 << section;
                }
            }
            return bits;
        }

        private boolean isPressed(int start, int end, int depth) {
            for (int section = start; section < end; section++) {
                if (pressureAt(section, depth) > 0) {
                    return true;
                }
            }
            return false;
        }

        private int together(int depth) {
            int sum = 0;
            for (int section = 0; section < SECTIONS; section++) {
                sum += pressureAt(section, depth);
            }
            return sum;
        }

        private void sortGaps() {
            for (int i = 0; i < SECTIONS; i++) {
                int gap = gaps[i];
                int at = i;
                for (; at > 0 && sorted[at - 1] > gap; at--) {
                    sorted[at] = sorted[at - 1];
                }
                sorted[at] = gap;
            }
        }
    }
}
