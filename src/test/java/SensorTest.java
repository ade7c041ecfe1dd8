import java.util.Arrays;

/** Promises 8 sample, 15 position and 16 lost, with step 2 of a tick. */
public final class SensorTest {
    private static final int[][] ORDERS = {{0, 1, 2}, {0, 2, 1}, {1, 0, 2}, {1, 2, 0}, {2, 0, 1}, {2, 1, 0}};

    public static void main(String[] args) {
        Checks checks = new Checks();
        replaced(checks);
        sensorNumbers(checks);
        levelReach(checks);
        heightReach(checks);
        atLeastTwo(checks);
        eachCoordinateByItself(checks);
        middleOfThree(checks);
        halfOfTwo(checks);
        staysAndLostGrows(checks);
        forgotten(checks);
        axes(checks);
        lostTicks(checks);
        checks.finish();
    }

    private static void replaced(Checks checks) {
        checks.about("Sensor k gives a sample (in the place of one that it gave since the latest tick).");
        for (int k = 0; k < 3; k++) {
            FencePilot pilot = new FencePilot();
            checks.yes("a sample", pilot.sample(k, 100, 100, 100));
            checks.yes("and another", pilot.sample(k, 50, 60, 70));
            pilot.tick(90);
            checks.same("one sensor twice is one sensor", pilot.lost(), 2);
            pilot.sample(k, 100, 100, 100);
            pilot.sample((k + 1) % 3, 10, 20, 30);
            pilot.sample(k, 20, 40, 60);
            checks.no("a refused one does not replace", pilot.sample(k, 20001, 0, 0));
            checks.place("not before the tick", pilot, 0, 0, 0);
            pilot.tick(90);
            checks.place("of the later one", pilot, 15, 30, 45);
        }
    }

    private static void sensorNumbers(Checks checks) {
        checks.about("False when k is not 0 to 2");
        FencePilot pilot = new FencePilot();
        int[] beyond = {-1, 3, -3, 4};
        for (int k : beyond) {
            checks.no("sample of " + k, pilot.sample(k, 0, 0, 0));
        }
        for (int k : Checks.FAR) {
            checks.no("sample of " + k, pilot.sample(k, 0, 0, 0));
        }
        checks.yes("sample of 0", pilot.sample(0, 0, 0, 0));
        pilot.tick(90);
        checks.same("the refused ones do not count", pilot.lost(), 2);
        checks.yes("sample of 0", pilot.sample(0, 1, 1, 1));
        checks.yes("sample of 1", pilot.sample(1, 2, 2, 2));
        checks.yes("sample of 2", pilot.sample(2, 3, 3, 3));
        pilot.tick(90);
        checks.place("of all three", pilot, 2, 2, 2);
    }

    private static void levelReach(Checks checks) {
        checks.about("x or y is not from -20000 to 20000");
        FencePilot pilot = new FencePilot();
        int[] beyond = {-20001, 20001};
        for (int at : beyond) {
            checks.no("x " + at, pilot.sample(0, at, 0, 0));
            checks.no("y " + at, pilot.sample(1, 0, at, 0));
        }
        for (int at : Checks.FAR) {
            checks.no("x " + at, pilot.sample(0, at, 0, 0));
            checks.no("y " + at, pilot.sample(1, 0, at, 0));
        }
        pilot.tick(90);
        checks.same("none was taken", pilot.lost(), 2);
        checks.yes("x 20000, y -20000", pilot.sample(0, 20000, -20000, 0));
        checks.yes("x 20000, y -20000", pilot.sample(1, 20000, -20000, 0));
        pilot.tick(90);
        checks.place("at the reach", pilot, 20000, -20000, 0);
        checks.yes("x -20000, y 20000", pilot.sample(1, -20000, 20000, 0));
        checks.yes("x -20000, y 20000", pilot.sample(2, -20000, 20000, 0));
        pilot.tick(90);
        checks.place("at the reach", pilot, -20000, 20000, 0);
    }

    private static void heightReach(Checks checks) {
        checks.about("or z is not from -2000 to 20000.");
        FencePilot pilot = new FencePilot();
        int[] beyond = {-2001, 20001, -20000};
        for (int z : beyond) {
            checks.no("z " + z, pilot.sample(0, 0, 0, z));
            checks.no("z " + z, pilot.sample(1, 0, 0, z));
        }
        for (int z : Checks.FAR) {
            checks.no("z " + z, pilot.sample(2, 0, 0, z));
        }
        pilot.tick(90);
        checks.same("none was taken", pilot.lost(), 2);
        int[] good = {-2000, -1999, 19999, 20000};
        for (int z : good) {
            checks.yes("z " + z, pilot.sample(0, 0, 0, z));
            checks.yes("z " + z, pilot.sample(1, 0, 0, z));
            pilot.tick(90);
            checks.place("at the reach", pilot, 0, 0, z);
        }
    }

    private static void atLeastTwo(Checks checks) {
        checks.about("If at least two of the three sensors gave a sample since the tick before: "
            + "the position is voted, each coordinate by itself, and lost becomes 0.");
        for (int given = 0; given < 8; given++) {
            FencePilot pilot = new FencePilot();
            for (int k = 0; k < 3; k++) {
                if ((given >> k & 1) == 1) {
                    pilot.sample(k, 100, -200, 300);
                }
            }
            pilot.tick(90);
            boolean enough = Integer.bitCount(given) >= 2;
            checks.same("lost() with sensors " + given, pilot.lost(), enough ? 0 : 2);
            checks.place("with sensors " + given, pilot, enough ? 100 : 0, enough ? -200 : 0, enough ? 300 : 0);
        }
    }

    private static void eachCoordinateByItself(Checks checks) {
        checks.about("each coordinate by itself");
        int[] values = {-7, 11, 500};
        for (int[] x : ORDERS) {
            for (int[] y : ORDERS) {
                FencePilot pilot = new FencePilot();
                for (int k = 0; k < 3; k++) {
                    pilot.sample(k, values[x[k]], -values[y[k]], 3 * values[y[2 - k]]);
                }
                pilot.tick(90);
                checks.place("three", pilot, 11, -11, 33);
            }
        }
    }

    private static void middleOfThree(Checks checks) {
        checks.about("It is the middle one of three");
        int[] values = {-20000, -1, 0, 1, 20000};
        for (int a : values) {
            for (int b : values) {
                FencePilot pilot = new FencePilot();
                for (int c : values) {
                    pilot.sample(2, c, b, 0);
                    pilot.sample(0, a, c, 0);
                    pilot.sample(1, b, a, 0);
                    pilot.tick(90);
                    int[] sorted = {a, b, c};
                    Arrays.sort(sorted);
                    checks.place("of " + a + ", " + b + ", " + c, pilot, sorted[1], sorted[1], 0);
                }
            }
        }
    }

    private static void halfOfTwo(Checks checks) {
        checks.about("of two, half of their sum, rounded down (to the lesser whole number)");
        int[][] pairs = {{0, 1}, {0, 2}, {1, 2}, {1, 0}, {2, 0}, {2, 1}};
        int[][] cases = {{0, 0, 0}, {0, 1, 0}, {1, 1, 1}, {1, 2, 1}, {0, -1, -1}, {-1, -1, -1}, {-1, -2, -2},
            {-3, 0, -2}, {-5, -3, -4}, {-1, 1, 0}, {-1, 2, 0}, {1, -2, -1}, {-2000, -1999, -2000},
            {19999, 20000, 19999}, {20000, 20000, 20000}, {-2000, 20000, 9000}};
        for (int[] pair : pairs) {
            FencePilot pilot = new FencePilot();
            for (int[] c : cases) {
                // A third sensor's sample of the tick before must not count.
                for (int k = 0; k < 3; k++) {
                    pilot.sample(k, 9000, 9000, 9000);
                }
                pilot.tick(90);
                pilot.sample(pair[0], c[0], -c[0], c[0]);
                pilot.sample(pair[1], c[1], -c[1], c[1]);
                pilot.tick(90);
                checks.place("of " + c[0] + " and " + c[1], pilot, c[2], Math.floorDiv(-c[0] - c[1], 2), c[2]);
            }
        }
    }

    private static void staysAndLostGrows(Checks checks) {
        checks.about("Otherwise the position stays, and lost grows by 1.");
        FencePilot pilot = new FencePilot();
        Checks.tickAt(pilot, 100, 200, 300);
        for (int k = 0; k < 3; k++) {
            pilot.sample(k, 1, 1, 1);
            pilot.tick(90);
            checks.same("lost() after one sample", pilot.lost(), k + 1);
            checks.place("stays", pilot, 100, 200, 300);
        }
        pilot.tick(90);
        checks.same("lost() after none", pilot.lost(), 4);
        checks.place("stays", pilot, 100, 200, 300);
        Checks.tickAt(pilot, 7, 8, 9);
        checks.same("lost() when voted again", pilot.lost(), 0);
        checks.place("voted again", pilot, 7, 8, 9);
    }

    private static void forgotten(Checks checks) {
        checks.about("All samples are forgotten.");
        for (int k = 0; k < 3; k++) {
            FencePilot pilot = new FencePilot();
            pilot.sample(k, 10, 10, 10);
            pilot.tick(90);
            pilot.sample((k + 1) % 3, 10, 10, 10);
            pilot.tick(90);
            checks.same("one and one in two ticks", pilot.lost(), 3);
            Checks.tickAt(pilot, 10, 10, 10);
            pilot.tick(90);
            checks.same("two of the tick before", pilot.lost(), 1);
            pilot.sample(k, 30, 30, 30);
            pilot.tick(90);
            checks.same("two of the tick before and one", pilot.lost(), 2);
        }
        FencePilot refused = new FencePilot();
        refused.sample(0, 10, 10, 10);
        refused.sample(1, 10, 10, 10);
        checks.same("tick(101)", refused.tick(101), FencePilot.BAD);
        checks.same("lost() after it", refused.lost(), 1);
        refused.tick(100);
        checks.place("not forgotten by a refused tick", refused, 10, 10, 10);
    }

    private static void axes(Checks checks) {
        checks.about("Coordinate axis (0 x, 1 y, 2 z) of the position; 0 when axis is not 0 to 2.");
        FencePilot pilot = new FencePilot();
        checks.place("at first", pilot, 0, 0, 0);
        Checks.tickAt(pilot, 1, 2, 3);
        checks.place("voted", pilot, 1, 2, 3);
        int[] beyond = {-1, 3, -2, 4};
        for (int axis : beyond) {
            checks.same("position(" + axis + ")", pilot.position(axis), 0);
        }
        for (int axis : Checks.FAR) {
            checks.same("position(" + axis + ")", pilot.position(axis), 0);
        }
    }

    private static void lostTicks(Checks checks) {
        checks.about("LOST is the number of ticks since it was voted last, at first 1");
        FencePilot pilot = new FencePilot();
        checks.same("at first", pilot.lost(), 1);
        for (int i = 2; i <= 30; i++) {
            pilot.tick(90);
            checks.same("never voted", pilot.lost(), i);
        }
        pilot.sample(0, 0, 0, 0);
        pilot.sample(2, 0, 0, 0);
        checks.same("not before the tick", pilot.lost(), 30);
        pilot.tick(90);
        checks.same("voted", pilot.lost(), 0);
        pilot.tick(90);
        checks.same("one tick since", pilot.lost(), 1);
    }
}
