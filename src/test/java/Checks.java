/**
 * Counts the answers that are not the ones due, under the sentence of the document that they are
 * about, and makes craft that tests begin with.
 */
final class Checks {
    static final int DISARMED = 0;
    static final int TAKEOFF = 1;
    static final int MISSION = 2;
    static final int HOLD = 3;
    static final int RETURN = 4;
    static final int LAND = 5;

    /** Just beyond every range of the document, and where ints wrap around. */
    static final int[] FAR = {Integer.MIN_VALUE, Integer.MIN_VALUE + 1, -1000000, 1000000,
        Integer.MAX_VALUE - 1, Integer.MAX_VALUE};

    private String sentence = "";
    private int sentences = 0;
    private int askedBefore = 0;
    private int asked = 0;
    private int wrong = 0;

    /** What follows is about this sentence; each one needs two answers, at a boundary and beyond. */
    void about(String quoted) {
        closeSentence();
        sentence = quoted;
        sentences++;
        askedBefore = asked;
    }

    private void closeSentence() {
        if (!sentence.isEmpty() && asked - askedBefore < 2) {
            wrong++;
            System.out.println("fewer than two answers are looked at for \"" + sentence + "\"");
        }
    }

    void same(String call, long got, long want) {
        asked++;
        if (got != want) {
            wrong++;
            System.out.println("\"" + sentence + "\": " + call + " answered " + got + ", due is " + want);
        }
    }

    void yes(String call, boolean got) {
        same(call, got ? 1 : 0, 1);
    }

    void no(String call, boolean got) {
        same(call, got ? 1 : 0, 0);
    }

    void vector(String call, FencePilot pilot, int x, int y, int z) {
        same(call + ": demand(0)", pilot.demand(0), x);
        same(call + ": demand(1)", pilot.demand(1), y);
        same(call + ": demand(2)", pilot.demand(2), z);
    }

    void place(String call, FencePilot pilot, int x, int y, int z) {
        same(call + ": position(0)", pilot.position(0), x);
        same(call + ": position(1)", pilot.position(1), y);
        same(call + ": position(2)", pilot.position(2), z);
    }

    void finish() {
        closeSentence();
        System.out.println(asked + " answers looked at for " + sentences + " sentences, "
            + wrong + " not as due");
        if (wrong != 0) {
            System.exit(1);
        }
    }

    /** Gives the corners of a shape, x and y by turns. */
    static void corners(FencePilot pilot, int... coordinates) {
        for (int i = 0; i + 1 < coordinates.length; i += 2) {
            pilot.corner(coordinates[i], coordinates[i + 1]);
        }
    }

    static void square(FencePilot pilot, int reach) {
        corners(pilot, -reach, -reach, reach, -reach, reach, reach, -reach, reach);
    }

    /** On the ground, never voted, in a square fence of that reach around home. */
    static FencePilot fenced(int reach, int ceiling) {
        FencePilot pilot = new FencePilot();
        square(pilot, reach);
        pilot.fence(ceiling);
        return pilot;
    }

    static FencePilot fenced() {
        return fenced(5000, 3000);
    }

    static int tickAt(FencePilot pilot, int x, int y, int z, int battery) {
        pilot.sample(0, x, y, z);
        pilot.sample(1, x, y, z);
        return pilot.tick(battery);
    }

    static int tickAt(FencePilot pilot, int x, int y, int z) {
        return tickAt(pilot, x, y, z, 90);
    }

    static void ticks(FencePilot pilot, int count) {
        for (int i = 0; i < count; i++) {
            pilot.tick(90);
        }
    }

    /** Armed at home after one tick, so in TAKEOFF. */
    static FencePilot armed() {
        return armedIn(fenced());
    }

    static FencePilot armedIn(FencePilot pilot) {
        tickAt(pilot, 0, 0, 0);
        pilot.arm();
        return pilot;
    }

    /** In the air without a mission, so in HOLD, after two ticks. */
    static FencePilot holding() {
        FencePilot pilot = armed();
        tickAt(pilot, 0, 0, 1000);
        return pilot;
    }

    /** In any mode but DISARMED, at home and 1000 high after two ticks, with one item far off. */
    static FencePilot flyingIn(int mode) {
        FencePilot pilot = armed();
        load(pilot, 4000, 0, 1000);
        if (mode == TAKEOFF) {
            tickAt(pilot, 0, 0, 999);
        } else {
            tickAt(pilot, 0, 0, 1000);
            pilot.command(mode);
        }
        return pilot;
    }

    /** Gives a mission, x, y and z by turns. */
    static int load(FencePilot pilot, int... coordinates) {
        int last = pilot.upload(coordinates.length / 3);
        for (int i = 0; i + 2 < coordinates.length; i += 3) {
            last = pilot.item(i / 3, coordinates[i], coordinates[i + 1], coordinates[i + 2]);
        }
        return last;
    }

    /** In MISSION at home and 1000 high, after two ticks. */
    static FencePilot onMission(int... coordinates) {
        FencePilot pilot = armed();
        load(pilot, coordinates);
        tickAt(pilot, 0, 0, 1000);
        return pilot;
    }
}
