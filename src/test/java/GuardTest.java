/** Promises 12 tick and 14 demand: step 8 of a tick, which keeps the demands inside the fence. */
public final class GuardTest {
    public static void main(String[] args) {
        Checks checks = new Checks();
        onlyWhenVotedAndFlying(checks);
        notSafe(checks);
        notSafeSaturated(checks);
        safePart(checks);
        safePartOnEverySide(checks);
        roundedTowardsZero(checks);
        bothTogether(checks);
        slantedEdge(checks);
        ceiling(checks);
        ceilingFarBelow(checks);
        highestPlace(checks);
        checks.finish();
    }

    private static void onlyWhenVotedAndFlying(Checks checks) {
        checks.about("If lost is 0 and the mode is not DISARMED");
        for (int mode = Checks.TAKEOFF; mode <= Checks.LAND; mode++) {
            FencePilot pilot = Checks.flyingIn(mode);
            Checks.tickAt(pilot, 4801, 30, 900);
            checks.same("mode()", pilot.mode(), mode);
            checks.same("guarded in mode " + mode, pilot.demand(0), -200);
            checks.same("guarded in mode " + mode, pilot.demand(1), -30);
            pilot.tick(90);
            checks.vector("not guarded while lost", pilot, 0, 0, mode == Checks.LAND ? -50 : 0);
        }
        FencePilot high = Checks.holding();
        Checks.tickAt(high, 0, 0, 9000);
        checks.vector("guarded below the ceiling", high, 0, 0, -200);
        high.tick(90);
        checks.vector("not guarded while lost", high, 0, 0, 0);
        FencePilot landing = Checks.flyingIn(Checks.LAND);
        checks.same("landed outside", Checks.tickAt(landing, 4900, 0, 20), Checks.DISARMED);
        checks.vector("not guarded when it has landed", landing, 0, 0, 0);
    }

    private static void notSafe(Checks checks) {
        checks.about("when the position is not safe, the demand's first two coordinates become -x, -y");
        FencePilot pilot = Checks.onMission(9000, 0, 1500);
        Checks.tickAt(pilot, 4800, -30, 1000);
        checks.vector("just safe", pilot, 0, 0, 200);
        Checks.tickAt(pilot, 4801, -30, 1000);
        checks.vector("just not safe", pilot, -200, 30, 200);
        Checks.tickAt(pilot, 0, -4801, 1000);
        checks.vector("below", pilot, 0, 200, 200);
        Checks.tickAt(pilot, 5000, 5000, 1450);
        checks.vector("at a corner", pilot, -200, -200, 50);
        pilot.command(Checks.HOLD);
        Checks.tickAt(pilot, -150, 4801, 1000);
        checks.vector("in HOLD", pilot, 150, -200, 0);
    }

    private static void notSafeSaturated(Checks checks) {
        checks.about("saturated to 200");
        int[][] cases = {{201, -200}, {200, -200}, {199, -199}, {1, -1}, {0, 0}, {-199, 199}, {-200, 200},
            {-201, 200}};
        FencePilot pilot = Checks.flyingIn(Checks.HOLD);
        for (int[] c : cases) {
            Checks.tickAt(pilot, c[0], 5300, 1000);
            checks.vector("x " + c[0], pilot, c[1], -200, 0);
            Checks.tickAt(pilot, -5300, c[0], 1000);
            checks.vector("y " + c[0], pilot, 200, c[1], 0);
        }
        Checks.tickAt(pilot, -20000, 20000, 1000);
        checks.vector("far outside", pilot, 200, -200, 0);
    }

    private static void safePart(Checks checks) {
        checks.about("the first of these, for n = 4, 3, 2, 1, 0, that makes a safe point when it is added to x, y");
        int[][] cases = {{4599, 200}, {4600, 200}, {4601, 150}, {4650, 150}, {4651, 100}, {4700, 100},
            {4701, 50}, {4750, 50}, {4751, 0}, {4800, 0}, {4801, -200}};
        FencePilot pilot = Checks.onMission(9000, 0, 1000);
        for (int[] c : cases) {
            Checks.tickAt(pilot, c[0], 0, 1000);
            checks.vector("at x " + c[0], pilot, c[1], 0, 0);
        }
    }

    private static void safePartOnEverySide(Checks checks) {
        checks.about("each coordinate times n");
        int[][] cases = {{4600, 200}, {4601, 150}, {4650, 150}, {4651, 100}, {4700, 100}, {4701, 50},
            {4750, 50}, {4751, 0}, {4800, 0}, {4801, -200}};
        FencePilot left = Checks.onMission(-9000, 0, 1000);
        FencePilot above = Checks.onMission(0, 9000, 1000);
        FencePilot below = Checks.onMission(0, -9000, 1000);
        for (int[] c : cases) {
            Checks.tickAt(left, -c[0], 0, 1000);
            checks.vector("at x " + -c[0], left, -c[1], 0, 0);
            Checks.tickAt(above, 0, c[0], 1000);
            checks.vector("at y " + c[0], above, 0, c[1], 0);
            Checks.tickAt(below, 0, -c[0], 1000);
            checks.vector("at y " + -c[0], below, 0, -c[1], 0);
        }
    }

    private static void roundedTowardsZero(Checks checks) {
        checks.about("divided by 4 and rounded towards 0");
        // The item is 33 beyond the safe part: from 4704, say, 129 are left, and three quarters are 96.75.
        int[][] cases = {{4702, 98}, {4703, 97}, {4704, 96}, {4705, 64}, {4735, 49}, {4736, 48}, {4767, 33},
            {4768, 32}, {4769, 16}, {4788, 11}, {4789, 11}, {4790, 10}, {4791, 0}, {4800, 0}};
        FencePilot pilot = Checks.onMission(4833, -4833, 1500);
        for (int[] c : cases) {
            Checks.tickAt(pilot, c[0], -c[0], 1000);
            checks.vector("at " + c[0], pilot, c[1], -c[1], 200);
        }
        FencePilot other = Checks.onMission(4950, -4950, 1500);
        Checks.tickAt(other, 4751, -4751, 1000);
        checks.vector("a quarter of 199", other, 49, -49, 200);
        Checks.tickAt(other, 4752, -4752, 1000);
        checks.vector("a quarter of 198 is too far", other, 0, 0, 200);
        FencePilot odd = Checks.onMission(4803, -4803, 1500);
        Checks.tickAt(odd, 4798, -4690, 1000);
        checks.vector("two quarters of 5 and -113", odd, 2, -56, 200);
        FencePilot mirrored = Checks.onMission(-4803, 4803, 1500);
        Checks.tickAt(mirrored, -4798, 4690, 1000);
        checks.vector("two quarters of -5 and 113", mirrored, -2, 56, 200);
        FencePilot three = Checks.onMission(-4805, 0, 1500);
        Checks.tickAt(three, -4798, 150, 1000);
        checks.vector("a quarter of -7 and -150", three, -1, -37, 200);
    }

    private static void bothTogether(Checks checks) {
        checks.about("When it is safe, they become the first of these");
        FencePilot pilot = Checks.onMission(9000, 9000, 1000);
        Checks.tickAt(pilot, 4650, 0, 1000);
        checks.vector("y is shortened with x", pilot, 150, 150, 0);
        Checks.tickAt(pilot, 4750, 4650, 1000);
        checks.vector("the tighter one counts", pilot, 50, 50, 0);
        Checks.tickAt(pilot, 4800, 0, 1000);
        checks.vector("no way along the edge", pilot, 0, 0, 0);
        Checks.tickAt(pilot, 4600, 4600, 1000);
        checks.vector("into the corner", pilot, 200, 200, 0);
    }

    private static void slantedEdge(Checks checks) {
        checks.about("that makes a safe point");
        FencePilot pilot = new FencePilot();
        // The slanted edge runs along 3x + 4y = 5000, so points up to 3x + 4y = 4000 are safe.
        Checks.corners(pilot, -3000, 3500, -3000, -3000, 3000, -3000, 3000, -1000);
        pilot.fence(3000);
        Checks.armedIn(pilot);
        Checks.load(pilot, 2000, 2000, 1000);
        Checks.tickAt(pilot, 0, 0, 1000);
        int[][] cases = {{650, 200}, {651, 150}, {737, 150}, {738, 100}, {825, 100}, {826, 50}, {912, 50},
            {913, 0}, {1000, 0}};
        for (int[] c : cases) {
            Checks.tickAt(pilot, 0, c[0], 1000);
            checks.vector("at y " + c[0], pilot, c[1], c[1], 0);
        }
        Checks.tickAt(pilot, 0, 1001, 1000);
        checks.vector("back", pilot, 0, -200, 0);
    }

    private static void ceiling(Checks checks) {
        checks.about("when z plus the third coordinate is more than the ceiling less 200, "
            + "the third becomes the ceiling less 200 less z");
        int[][] cases = {{2599, 200}, {2600, 200}, {2601, 199}, {2799, 1}, {2800, 0}, {2801, -1}};
        FencePilot mission = Checks.onMission(0, 2000, 10000);
        for (int[] c : cases) {
            Checks.tickAt(mission, 0, 0, c[0]);
            checks.vector("MISSION at z " + c[0], mission, 0, 200, c[1]);
        }
        FencePilot landing = Checks.flyingIn(Checks.LAND);
        Checks.tickAt(landing, 0, 0, 2850);
        checks.vector("LAND 50 above", landing, 0, 0, -50);
        Checks.tickAt(landing, 0, 0, 2851);
        checks.vector("LAND 51 above", landing, 0, 0, -51);
        FencePilot home = Checks.flyingIn(Checks.RETURN);
        Checks.tickAt(home, 500, 0, 2800);
        checks.vector("RETURN", home, -200, 0, 0);
        Checks.tickAt(home, 500, 0, 2801);
        checks.vector("RETURN one above", home, -200, 0, -1);
        FencePilot low = Checks.armedIn(Checks.fenced(5000, 1500));
        Checks.tickAt(low, 0, 0, 999);
        checks.vector("TAKEOFF under the lowest ceiling", low, 0, 0, 100);
        checks.same("HOLD", Checks.tickAt(low, 0, 0, 1350), Checks.HOLD);
        checks.vector("HOLD above it", low, 0, 0, -50);
    }

    private static void ceilingFarBelow(Checks checks) {
        checks.about("but not less than -200");
        int[][] cases = {{2999, -199}, {3000, -200}, {3001, -200}, {3002, -200}, {20000, -200}};
        for (int mode = Checks.MISSION; mode <= Checks.LAND; mode++) {
            FencePilot pilot = Checks.flyingIn(mode);
            for (int[] c : cases) {
                Checks.tickAt(pilot, 500, 0, c[0]);
                int due = mode == Checks.MISSION ? -200 : c[1];
                checks.same("mode " + mode + " at z " + c[0], pilot.demand(2), due);
            }
        }
        FencePilot outside = Checks.holding();
        Checks.tickAt(outside, 6000, 0, 20000);
        checks.vector("far above and outside", outside, -200, 0, -200);
        Checks.tickAt(outside, 6000, 0, 2801);
        checks.vector("one above and outside", outside, -200, 0, -1);
    }

    private static void highestPlace(Checks checks) {
        checks.about("each with an x and a y from -10000 to 10000, and a CEILING");
        FencePilot pilot = Checks.armedIn(Checks.fenced(10000, 10000));
        Checks.load(pilot, 10000, 10000, 10000);
        Checks.tickAt(pilot, 0, 0, 1000);
        Checks.tickAt(pilot, 9600, 9600, 9600);
        checks.vector("the whole way", pilot, 200, 200, 200);
        Checks.tickAt(pilot, 9601, 9600, 9601);
        checks.vector("one nearer", pilot, 150, 150, 199);
        Checks.tickAt(pilot, 9800, 9800, 9800);
        checks.vector("at the very end", pilot, 0, 0, 0);
        Checks.tickAt(pilot, 9801, 9800, 9801);
        checks.vector("one beyond", pilot, -200, -200, -1);
    }
}
