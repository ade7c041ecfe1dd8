/**
 * Flies a craft tick by tick: uploads of missions and fences, a position voted from three
 * sensors, modes, guidance to waypoints, failsafes, and a guard that keeps the demands inside
 * a convex fence.
 */
public final class FencePilot {
    public static final int ARMED = -1;
    public static final int FEW = -2;
    public static final int CROOKED = -3;
    public static final int NEAR = -4;
    public static final int BAD = -5;
    public static final int NOUPLOAD = -6;
    public static final int NOFENCE = -7;
    public static final int NOPLACE = -8;
    public static final int GROUNDED = -9;
    public static final int REFUSED = -10;
    public static final int EMPTY = -11;
    public static final int DONE = 100;

    private static final int OK = 0;

    private static final int DISARMED = 0;
    private static final int TAKEOFF = 1;
    private static final int MISSION = 2;
    private static final int HOLD = 3;
    private static final int RETURN = 4;
    private static final int LAND = 5;

    private static final int X = 0;
    private static final int Y = 1;
    private static final int Z = 2;
    private static final int AXES = 3;

    private static final int MAP_REACH = 10000;
    private static final int LOWEST_ITEM = 500;
    private static final int HIGHEST_ITEM = 10000;
    private static final int SENSOR_REACH = 20000;
    private static final int LOWEST_SAMPLE = -2000;
    private static final int HIGHEST_SAMPLE = 20000;

    private static final int MIN_CORNERS = 3;
    private static final int MAX_CORNERS = 8;
    private static final int LOWEST_CEILING = 1500;
    private static final int HIGHEST_CEILING = 10000;
    private static final int HOME_MARGIN = 1000;
    private static final int SAFE_MARGIN = 200;

    private static final int MAX_ITEMS = 8;
    private static final int REPEAT_AGE = 10;
    private static final int MAX_REPEATS = 3;

    private static final int SENSORS = 3;
    private static final int ENOUGH_SAMPLES = 2;

    private static final int FULL_BATTERY = 100;
    private static final int LOW_BATTERY = 25;
    private static final int FLAT_BATTERY = 10;
    private static final int LOST_LIMIT = 5;
    private static final int SILENT_LIMIT = 20;

    private static final int CRUISE_HEIGHT = 1000;
    private static final int LANDED_HEIGHT = 20;
    private static final int REACHED = 100;
    private static final int MAX_STEP = 200;
    private static final int CLIMB = 100;
    private static final int DESCENT = -50;
    private static final int GUARD_PARTS = 4;

    private static final int KEPT_CHANGES = 16;
    private static final int CHANGE_SCALE = 8;
    private static final int NO_CHANGE = -1;

    private final Corners given;
    private final Corners bounds;
    private final Upload incoming;
    private final Items mission;
    private final Sensors sensors;
    private final ModeLog modes;
    private final int[] place;
    private final int[] wish;
    private int ceiling;
    private int heading;
    private int lostTicks;
    private int silentTicks;
    private int ticks;

    public FencePilot() {
        given = new Corners();
        bounds = new Corners();
        incoming = new Upload();
        mission = new Items();
        sensors = new Sensors();
        modes = new ModeLog();
        place = new int[AXES];
        wish = new int[AXES];
        ceiling = 0;
        heading = 0;
        lostTicks = 1;
        silentTicks = 0;
        ticks = 0;
    }

    public boolean corner(int x, int y) {
        if (given.isFull() || !isOnMap(x, y)) {
            return false;
        }
        given.add(x, y);
        return true;
    }

    public void erase() {
        given.clear();
    }

    public int fence(int ceiling) {
        if (modes.current != DISARMED) {
            return ARMED;
        }
        if (!given.areEnough()) {
            return FEW;
        }
        if (!given.areConvex()) {
            return CROOKED;
        }
        if (!given.leaveClear(0, 0, HOME_MARGIN)) {
            return NEAR;
        }
        if (!isWithin(ceiling, LOWEST_CEILING, HIGHEST_CEILING)) {
            return BAD;
        }
        bounds.copyFrom(given);
        this.ceiling = ceiling;
        given.clear();
        return OK;
    }

    public int upload(int n) {
        if (!isWithin(n, 1, MAX_ITEMS)) {
            return BAD;
        }
        incoming.begin(n);
        return OK;
    }

    public int item(int k, int x, int y, int z) {
        if (!incoming.underWay) {
            return NOUPLOAD;
        }
        if (!isOnMap(x, y) || !isWithin(z, LOWEST_ITEM, HIGHEST_ITEM)) {
            return BAD;
        }
        if (k != incoming.next()) {
            return incoming.next();
        }
        incoming.keep(x, y, z);
        if (!incoming.isComplete()) {
            return incoming.next();
        }
        incoming.end();
        mission.copyFrom(incoming.brought);
        heading = 0;
        return DONE;
    }

    public int wanted() {
        return incoming.underWay ? incoming.next() : NOUPLOAD;
    }

    public boolean sample(int k, int x, int y, int z) {
        if (!isWithin(k, 0, SENSORS - 1) || !isInSensorReach(x, y)
                || !isWithin(z, LOWEST_SAMPLE, HIGHEST_SAMPLE)) {
            return false;
        }
        sensors.take(k, x, y, z);
        return true;
    }

    public void beat() {
        silentTicks = 0;
    }

    public int arm() {
        if (modes.current != DISARMED) {
            return ARMED;
        }
        if (!bounds.areEnough()) {
            return NOFENCE;
        }
        if (lostTicks > 0 || !bounds.leaveClear(place[X], place[Y], SAFE_MARGIN)) {
            return NOPLACE;
        }
        modes.enter(TAKEOFF, ticks);
        return OK;
    }

    public int command(int mode) {
        if (!isWithin(mode, MISSION, LAND)) {
            return BAD;
        }
        if (modes.current == DISARMED) {
            return GROUNDED;
        }
        if (modes.landForced || (modes.current == TAKEOFF && mode == MISSION)) {
            return REFUSED;
        }
        if (mode == MISSION && mission.isEmpty()) {
            return EMPTY;
        }
        modes.enter(mode, ticks);
        return OK;
    }

    public int tick(int battery) {
        if (!isWithin(battery, 0, FULL_BATTERY)) {
            return BAD;
        }
        ticks++;
        incoming.growOlder();
        locate();
        silentTicks++;
        if (modes.current == DISARMED) {
            setWish(0, 0, 0);
        } else {
            fly(battery);
        }
        return modes.current;
    }

    public int mode() {
        return modes.current;
    }

    public int demand(int axis) {
        return isWithin(axis, 0, AXES - 1) ? wish[axis] : 0;
    }

    public int position(int axis) {
        return isWithin(axis, 0, AXES - 1) ? place[axis] : 0;
    }

    public int lost() {
        return lostTicks;
    }

    public int waypoint() {
        return mission.isEmpty() ? EMPTY : heading;
    }

    public boolean safe(int x, int y) {
        return isInSensorReach(x, y) && bounds.leaveClear(x, y, SAFE_MARGIN);
    }

    public int change(int k) {
        return isWithin(k, 0, KEPT_CHANGES - 1) ? modes.changes[k] : NO_CHANGE;
    }

    private void locate() {
        if (sensors.countFresh() < ENOUGH_SAMPLES) {
            lostTicks++;
        } else {
            for (int axis = 0; axis < AXES; axis++) {
                place[axis] = sensors.vote(axis);
            }
            lostTicks = 0;
        }
        sensors.forget();
    }

    private void fly(int battery) {
        applyFailsafes(battery);
        if (lostTicks == 0) {
            moveOn();
        }
        guide();
        if (lostTicks > 0) {
            flyBlind();
        } else if (modes.current != DISARMED) {
            guardSides();
            guardTop();
        }
    }

    private void applyFailsafes(int battery) {
        if (battery < FLAT_BATTERY || lostTicks >= LOST_LIMIT) {
            modes.forceLand(ticks);
        } else if ((battery < LOW_BATTERY || silentTicks >= SILENT_LIMIT)
                && modes.current != RETURN && modes.current != LAND) {
            modes.enter(RETURN, ticks);
        }
    }

    private void moveOn() {
        int before = modes.current;
        if (before == TAKEOFF && place[Z] >= CRUISE_HEIGHT) {
            modes.enter(mission.isEmpty() ? HOLD : MISSION, ticks);
        } else if (before == MISSION && hasReachedItem()) {
            passItem();
        } else if (before == RETURN && isNear(place[X], 0) && isNear(place[Y], 0)) {
            modes.enter(LAND, ticks);
        } else if (before == LAND && place[Z] <= LANDED_HEIGHT) {
            modes.enter(DISARMED, ticks);
        }
    }

    private boolean hasReachedItem() {
        for (int axis = 0; axis < AXES; axis++) {
            if (!isNear(place[axis], mission.read(heading, axis))) {
                return false;
            }
        }
        return true;
    }

    private void passItem() {
        heading++;
        if (heading >= mission.count) {
            heading = 0;
            modes.enter(RETURN, ticks);
        }
    }

    private void guide() {
        if (modes.current == TAKEOFF) {
            setWish(0, 0, CLIMB);
        } else if (modes.current == MISSION) {
            wishForItem();
        } else if (modes.current == RETURN) {
            setWish(saturate(-place[X]), saturate(-place[Y]), 0);
        } else if (modes.current == LAND) {
            setWish(0, 0, DESCENT);
        } else {
            setWish(0, 0, 0);
        }
    }

    private void wishForItem() {
        for (int axis = 0; axis < AXES; axis++) {
            wish[axis] = saturate(mission.read(heading, axis) - place[axis]);
        }
    }

    private void flyBlind() {
        setWish(0, 0, modes.current == LAND ? wish[Z] : 0);
    }

    private void guardSides() {
        int x = place[X];
        int y = place[Y];
        if (!bounds.leaveClear(x, y, SAFE_MARGIN)) {
            setWish(saturate(-x), saturate(-y), wish[Z]);
            return;
        }
        for (int n = GUARD_PARTS; n >= 0; n--) {
            int dx = wish[X] * n / GUARD_PARTS;
            int dy = wish[Y] * n / GUARD_PARTS;
            if (bounds.leaveClear(x + dx, y + dy, SAFE_MARGIN)) {
                setWish(dx, dy, wish[Z]);
                return;
            }
        }
    }

    private void guardTop() {
        int room = ceiling - SAFE_MARGIN - place[Z];
        if (wish[Z] > room) {
            wish[Z] = Math.max(room, -MAX_STEP);
        }
    }

    private void setWish(int x, int y, int z) {
        wish[X] = x;
        wish[Y] = y;
        wish[Z] = z;
    }

    private static boolean isWithin(int value, int least, int most) {
        return value >= least && value <= most;
    }

    private static boolean isOnMap(int x, int y) {
        return isWithin(x, -MAP_REACH, MAP_REACH) && isWithin(y, -MAP_REACH, MAP_REACH);
    }

    private static boolean isInSensorReach(int x, int y) {
        return isWithin(x, -SENSOR_REACH, SENSOR_REACH) && isWithin(y, -SENSOR_REACH, SENSOR_REACH);
    }

    private static boolean isNear(int value, int goal) {
        return isWithin(value - goal, -REACHED, REACHED);
    }

    private static int saturate(int value) {
        return Math.max(-MAX_STEP, Math.min(MAX_STEP, value));
    }

    /** Corners in their order; fewer than three of them bound nothing. */
    private static final class Corners {
        private final int[] xs;
        private final int[] ys;
        private int count;

        Corners() {
            xs = new int[MAX_CORNERS];
            ys = new int[MAX_CORNERS];
            count = 0;
        }

        boolean isFull() {
            return count >= MAX_CORNERS;
        }

        boolean areEnough() {
            return count >= MIN_CORNERS;
        }

        void add(int x, int y) {
            if (!isFull()) {
                xs[count] = x;
                ys[count] = y;
                count++;
            }
        }

        void clear() {
            count = 0;
        }

        void copyFrom(Corners other) {
            for (int i = 0; i < other.count; i++) {
                xs[i] = other.xs[i];
                ys[i] = other.ys[i];
            }
            count = other.count;
        }

        boolean areConvex() {
            for (int edge = 0; edge < count; edge++) {
                if (squaredLength(edge) == 0 || !hasOthersInside(edge)) {
                    return false;
                }
            }
            return true;
        }

        boolean leaveClear(int x, int y, int margin) {
            if (!areEnough()) {
                return false;
            }
            for (int edge = 0; edge < count; edge++) {
                if (!isClear(edge, x, y, margin)) {
                    return false;
                }
            }
            return true;
        }

        private boolean hasOthersInside(int edge) {
            for (int i = 0; i < count; i++) {
                if (i != edge && i != after(edge) && side(edge, xs[i], ys[i]) <= 0) {
                    return false;
                }
            }
            return true;
        }

        /** Compares squares, since the distance itself is seldom a whole number. */
        private boolean isClear(int edge, int x, int y, int margin) {
            long side = side(edge, x, y);
            return side >= 0 && side * side >= (long) margin * margin * squaredLength(edge);
        }

        private long side(int edge, int x, int y) {
            int next = after(edge);
            // Longs, since the products of two lengths and more do not fit an int.
            long alongX = xs[next] - xs[edge];
            long alongY = ys[next] - ys[edge];
            return alongX * (y - ys[edge]) - alongY * (x - xs[edge]);
        }

        private long squaredLength(int edge) {
            int next = after(edge);
            long alongX = xs[next] - xs[edge];
            long alongY = ys[next] - ys[edge];
            return alongX * alongX + alongY * alongY;
        }

        private int after(int corner) {
            return corner + 1 < count ? corner + 1 : 0;
        }
    }

    /** Up to eight items, the coordinates of each side by side in one row. */
    private static final class Items {
        private final int[] row;
        private int count;

        Items() {
            row = new int[MAX_ITEMS * AXES];
            count = 0;
        }

        boolean isEmpty() {
            return count == 0;
        }

        void clear() {
            count = 0;
        }

        void add(int x, int y, int z) {
            if (count < MAX_ITEMS) {
                row[count * AXES + X] = x;
                row[count * AXES + Y] = y;
                row[count * AXES + Z] = z;
                count++;
            }
        }

        int read(int k, int axis) {
            return isWithin(k, 0, count - 1) ? row[k * AXES + axis] : 0;
        }

        void copyFrom(Items other) {
            System.arraycopy(other.row, 0, row, 0, row.length);
            count = other.count;
        }
    }

    /** The item wanted next is the first one that was not brought yet. */
    private static final class Upload {
        private final Items brought;
        private boolean underWay;
        private int size;
        private int age;
        private int repeats;

        Upload() {
            brought = new Items();
            underWay = false;
            size = 0;
            age = 0;
            repeats = 0;
        }

        void begin(int n) {
            brought.clear();
            underWay = true;
            size = n;
            age = 0;
            repeats = 0;
        }

        void end() {
            underWay = false;
        }

        int next() {
            return brought.count;
        }

        boolean isComplete() {
            return brought.count >= size;
        }

        void keep(int x, int y, int z) {
            brought.add(x, y, z);
            age = 0;
            repeats = 0;
        }

        void growOlder() {
            if (!underWay) {
                return;
            }
            age++;
            if (age >= REPEAT_AGE) {
                age = 0;
                repeats++;
                underWay = repeats < MAX_REPEATS;
            }
        }
    }

    /** The samples since the latest tick, those of each sensor side by side in one row. */
    private static final class Sensors {
        private final int[] row;
        private final boolean[] fresh;

        Sensors() {
            row = new int[SENSORS * AXES];
            fresh = new boolean[SENSORS];
        }

        void take(int k, int x, int y, int z) {
            row[k * AXES + X] = x;
            row[k * AXES + Y] = y;
            row[k * AXES + Z] = z;
            fresh[k] = true;
        }

        int countFresh() {
            int count = 0;
            for (int k = 0; k < SENSORS; k++) {
                if (fresh[k]) {
                    count++;
                }
            }
            return count;
        }

        void forget() {
            for (int k = 0; k < SENSORS; k++) {
                fresh[k] = false;
            }
        }

        int vote(int axis) {
            if (countFresh() == SENSORS) {
                return middle(row[axis], row[AXES + axis], row[2 * AXES + axis]);
            }
            int sum = 0;
            for (int k = 0; k < SENSORS; k++) {
                if (fresh[k]) {
                    sum += row[k * AXES + axis];
                }
            }
            return Math.floorDiv(sum, ENOUGH_SAMPLES);
        }

        private static int middle(int a, int b, int c) {
            return Math.max(Math.min(a, b), Math.min(Math.max(a, b), c));
        }
    }

    /** The mode, and the latest of its changes with the newest first. */
    private static final class ModeLog {
        private final int[] changes;
        private int current;
        private boolean landForced;

        ModeLog() {
            changes = new int[KEPT_CHANGES];
            for (int i = 0; i < KEPT_CHANGES; i++) {
                changes[i] = NO_CHANGE;
            }
            current = DISARMED;
            landForced = false;
        }

        void enter(int mode, int ticks) {
            if (mode == current) {
                return;
            }
            current = mode;
            landForced = false;
            for (int i = KEPT_CHANGES - 1; i > 0; i--) {
                changes[i] = changes[i - 1];
            }
            changes[0] = CHANGE_SCALE * ticks + mode;
        }

        void forceLand(int ticks) {
            enter(LAND, ticks);
            landForced = true;
        }
    }
}
