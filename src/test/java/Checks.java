/** Counts the answers that are not the ones due, and makes craft that tests begin with. */
final class Checks {
    static final int DISARMED = 0;
    static final int TAKEOFF = 1;
    static final int MISSION = 2;
    static final int HOLD = 3;
    static final int RETURN = 4;
    static final int LAND = 5;

    private int asked = 0;
    private int wrong = 0;

    void same(String call, long got, long want) {
        asked++;
        if (got != want) {
            wrong++;
            System.out.println(call + " answered " + got + ", due is " + want);
        }
    }

    void yes(String call, boolean got) {
        same(call, got ? 1 : 0, 1);
    }

    void no(String call, boolean got) {
        same(call, got ? 1 : 0, 0);
    }

    void vector(String call, FencePilot pilot, int x, int y, int z) {
        same(call + ": demand(0)", pilot.demand(0), x);
        same(call + ": demand(1)", pilot.demand(1), y);
        same(call + ": demand(2)", pilot.demand(2), z);
    }

    void place(String call, FencePilot pilot, int x, int y, int z) {
        same(call + ": position(0)", pilot.position(0), x);
        same(call + ": position(1)", pilot.position(1), y);
        same(call + ": position(2)", pilot.position(2), z);
    }

    void finish() {
        System.out.println(asked + " answers looked at, " + wrong + " not as due");
        if (wrong != 0) {
            System.exit(1);
        }
    }

    /** Gives the corners of a shape, x and y by turns. */
    static void corners(FencePilot pilot, int... coordinates) {
        for (int i = 0; i + 1 < coordinates.length; i += 2) {
            pilot.corner(coordinates[i], coordinates[i + 1]);
        }
    }

    static void square(FencePilot pilot, int reach) {
        corners(pilot, -reach, -reach, reach, -reach, reach, reach, -reach, reach);
    }

    /** On the ground at home, in a square fence of 5000 around it, with a ceiling of 3000. */
    static FencePilot fenced() {
        FencePilot pilot = new FencePilot();
        square(pilot, 5000);
        pilot.fence(3000);
        return pilot;
    }

    static int tickAt(FencePilot pilot, int x, int y, int z, int battery) {
        pilot.sample(0, x, y, z);
        pilot.sample(1, x, y, z);
        return pilot.tick(battery);
    }

    static int tickAt(FencePilot pilot, int x, int y, int z) {
        return tickAt(pilot, x, y, z, 90);
    }

    static void ticks(FencePilot pilot, int count) {
        for (int i = 0; i < count; i++) {
            pilot.tick(90);
        }
    }

    /** Armed at home after one tick, so in TAKEOFF. */
    static FencePilot armed() {
        FencePilot pilot = fenced();
        tickAt(pilot, 0, 0, 0);
        pilot.arm();
        return pilot;
    }

    /** In the air without a mission, so in HOLD, after two ticks. */
    static FencePilot holding() {
        FencePilot pilot = armed();
        tickAt(pilot, 0, 0, 1000);
        return pilot;
    }

    /** Gives a mission, x, y and z by turns. */
    static int load(FencePilot pilot, int... coordinates) {
        int last = pilot.upload(coordinates.length / 3);
        for (int i = 0; i + 2 < coordinates.length; i += 3) {
            last = pilot.item(i / 3, coordinates[i], coordinates[i + 1], coordinates[i + 2]);
        }
        return last;
    }

    /** In MISSION at home and 1000 high, after two ticks. */
    static FencePilot onMission(int... coordinates) {
        FencePilot pilot = armed();
        load(pilot, coordinates);
        tickAt(pilot, 0, 0, 1000);
        return pilot;
    }
}
