/** Promises 8 sample, 15 position and 16 lost, with step 2 of a tick. */
public final class SensorTest {
    public static void main(String[] args) {
        Checks checks = new Checks();
        sampleEdges(checks);
        middleOfThree(checks);
        halfOfTwo(checks);
        everyPair(checks);
        oneIsNotEnough(checks);
        laterSampleReplaces(checks);
        samplesAreForgotten(checks);
        refusedCallsKeepSamples(checks);
        axes(checks);
        checks.finish();
    }

    private static void sampleEdges(Checks checks) {
        FencePilot pilot = new FencePilot();
        checks.no("k -1", pilot.sample(-1, 0, 0, 0));
        checks.no("k 3", pilot.sample(3, 0, 0, 0));
        checks.no("k least", pilot.sample(Integer.MIN_VALUE, 0, 0, 0));
        checks.no("k most", pilot.sample(Integer.MAX_VALUE, 0, 0, 0));
        checks.no("x 20001", pilot.sample(0, 20001, 0, 0));
        checks.no("x -20001", pilot.sample(0, -20001, 0, 0));
        checks.no("y 20001", pilot.sample(1, 0, 20001, 0));
        checks.no("y -20001", pilot.sample(1, 0, -20001, 0));
        checks.no("z 20001", pilot.sample(2, 0, 0, 20001));
        checks.no("z -2001", pilot.sample(2, 0, 0, -2001));
        checks.no("z least", pilot.sample(2, 0, 0, Integer.MIN_VALUE));
        pilot.tick(90);
        checks.same("lost() after none was taken", pilot.lost(), 2);
        checks.yes("the most", pilot.sample(0, 20000, 20000, 20000));
        checks.yes("the least", pilot.sample(2, -20000, -20000, -2000));
        pilot.tick(90);
        checks.place("of both", pilot, 0, 0, 9000);
        checks.same("lost()", pilot.lost(), 0);
    }

    private static void middleOfThree(Checks checks) {
        int[][] orders = {{0, 1, 2}, {0, 2, 1}, {1, 0, 2}, {1, 2, 0}, {2, 0, 1}, {2, 1, 0}};
        int[] values = {-7, 11, 500};
        for (int[] x : orders) {
            for (int[] y : orders) {
                FencePilot pilot = new FencePilot();
                for (int k = 0; k < 3; k++) {
                    pilot.sample(k, values[x[k]], -values[y[k]], values[y[2 - k]]);
                }
                pilot.tick(90);
                checks.place("middle of three", pilot, 11, -11, 11);
            }
        }
        FencePilot equal = new FencePilot();
        equal.sample(0, 5, -20000, 9);
        equal.sample(1, 5, 20000, 9);
        equal.sample(2, 9, 20000, 9);
        equal.tick(90);
        checks.place("with equal ones", equal, 5, 20000, 9);
    }

    private static void halfOfTwo(Checks checks) {
        FencePilot pilot = new FencePilot();
        pilot.sample(0, -3, 4, -1);
        pilot.sample(1, 0, 7, 0);
        pilot.tick(90);
        checks.place("rounded down", pilot, -2, 5, -1);
        pilot.sample(0, -3, -20000, 2);
        pilot.sample(1, -5, -19999, 4);
        pilot.tick(90);
        checks.place("whole and negative", pilot, -4, -20000, 3);
    }

    private static void everyPair(Checks checks) {
        int[][] pairs = {{0, 1}, {0, 2}, {1, 2}};
        for (int[] pair : pairs) {
            FencePilot pilot = new FencePilot();
            for (int k = 0; k < 3; k++) {
                pilot.sample(k, 9000, 9000, 9000);
            }
            pilot.tick(90);
            pilot.sample(pair[1], 10, 20, 30);
            pilot.sample(pair[0], 20, 40, 60);
            pilot.tick(90);
            checks.place("of sensors " + pair[0] + " and " + pair[1], pilot, 15, 30, 45);
            checks.same("lost()", pilot.lost(), 0);
        }
    }

    private static void oneIsNotEnough(Checks checks) {
        FencePilot pilot = new FencePilot();
        Checks.tickAt(pilot, 100, 200, 300);
        for (int k = 0; k < 3; k++) {
            pilot.sample(k, 1, 1, 1);
            pilot.tick(90);
            checks.same("lost() after one sample", pilot.lost(), k + 1);
            checks.place("stays", pilot, 100, 200, 300);
        }
        pilot.tick(90);
        checks.same("lost() after none", pilot.lost(), 4);
        Checks.tickAt(pilot, 7, 8, 9);
        checks.same("lost() when voted again", pilot.lost(), 0);
        checks.place("voted again", pilot, 7, 8, 9);
    }

    private static void laterSampleReplaces(Checks checks) {
        FencePilot pilot = new FencePilot();
        pilot.sample(1, 100, 100, 100);
        pilot.sample(1, 50, 60, 70);
        pilot.tick(90);
        checks.same("one sensor twice is one sensor", pilot.lost(), 2);
        pilot.sample(0, 100, 100, 100);
        pilot.sample(2, 10, 20, 30);
        pilot.sample(0, 20, 40, 60);
        checks.no("a refused one does not replace", pilot.sample(0, 20001, 0, 0));
        checks.place("not before the tick", pilot, 0, 0, 0);
        pilot.tick(90);
        checks.place("of the later one", pilot, 15, 30, 45);
    }

    private static void samplesAreForgotten(Checks checks) {
        FencePilot pilot = new FencePilot();
        pilot.sample(0, 10, 10, 10);
        pilot.tick(90);
        pilot.sample(1, 10, 10, 10);
        pilot.tick(90);
        checks.same("samples of two ticks", pilot.lost(), 3);
        Checks.tickAt(pilot, 10, 10, 10);
        pilot.tick(90);
        checks.same("samples of the tick before", pilot.lost(), 1);
    }

    private static void refusedCallsKeepSamples(Checks checks) {
        FencePilot pilot = new FencePilot();
        pilot.sample(0, 10, 10, 10);
        pilot.sample(1, 10, 10, 10);
        checks.same("tick(101)", pilot.tick(101), FencePilot.BAD);
        checks.same("lost()", pilot.lost(), 1);
        checks.place("not voted", pilot, 0, 0, 0);
        pilot.tick(100);
        checks.place("voted", pilot, 10, 10, 10);
    }

    private static void axes(Checks checks) {
        FencePilot pilot = new FencePilot();
        Checks.tickAt(pilot, 1, 2, 3);
        checks.place("axes", pilot, 1, 2, 3);
        int[] bad = {-1, 3, Integer.MIN_VALUE, Integer.MAX_VALUE};
        for (int axis : bad) {
            checks.same("position(" + axis + ")", pilot.position(axis), 0);
        }
    }
}
