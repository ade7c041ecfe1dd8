/** Promises 12 tick and 14 demand: step 8 of a tick, which keeps the demands inside the fence. */
public final class GuardTest {
    public static void main(String[] args) {
        Checks checks = new Checks();
        shortened(checks);
        shortenedTowardsZero(checks);
        bothCoordinatesTogether(checks);
        unsafePlace(checks);
        everyFlyingMode(checks);
        slantedEdge(checks);
        ceiling(checks);
        ceilingFarBelow(checks);
        highestPlace(checks);
        checks.finish();
    }

    private static FencePilot towards(int x, int y, int z) {
        return Checks.onMission(x, y, z);
    }

    private static void shortened(Checks checks) {
        FencePilot pilot = towards(9000, 0, 1000);
        int[][] cases = {{4600, 200}, {4601, 150}, {4650, 150}, {4651, 100}, {4700, 100},
            {4701, 50}, {4750, 50}, {4751, 0}, {4800, 0}, {4801, -200}};
        for (int[] c : cases) {
            Checks.tickAt(pilot, c[0], 0, 1000);
            checks.vector("at x " + c[0], pilot, c[1], 0, 0);
        }
    }

    private static void shortenedTowardsZero(Checks checks) {
        FencePilot pilot = towards(-5000, 0, 1000);
        // The item is 199 away: three quarters are 149.25, a half 99.5, a quarter 49.75.
        Checks.tickAt(pilot, -4801, 0, 1000);
        checks.vector("not safe", pilot, 200, 0, 0);
        FencePilot other = towards(4950, -4950, 1000);
        Checks.tickAt(other, 4751, -4751, 1000);
        checks.vector("a quarter of 199", other, 49, -49, 0);
        Checks.tickAt(other, 4753, -4753, 1000);
        checks.vector("a quarter of 197 is 49 too far", other, 0, 0, 0);
        FencePilot odd = towards(4803, -4803, 1000);
        Checks.tickAt(odd, 4798, -4690, 1000);
        checks.vector("two quarters of 5 and -113", odd, 2, -56, 0);
    }

    private static void bothCoordinatesTogether(Checks checks) {
        FencePilot pilot = towards(9000, 9000, 1000);
        Checks.tickAt(pilot, 4650, 0, 1000);
        checks.vector("y is shortened with x", pilot, 150, 150, 0);
        Checks.tickAt(pilot, 4750, 4650, 1000);
        checks.vector("the tighter one counts", pilot, 50, 50, 0);
        Checks.tickAt(pilot, 4800, 0, 1000);
        checks.vector("no way along the edge", pilot, 0, 0, 0);
    }

    private static void unsafePlace(Checks checks) {
        FencePilot pilot = towards(9000, 0, 1500);
        Checks.tickAt(pilot, 4801, -30, 1000);
        checks.vector("just not safe", pilot, -200, 30, 200);
        Checks.tickAt(pilot, -20000, 20000, 1000);
        checks.vector("far outside", pilot, 200, -200, 200);
        Checks.tickAt(pilot, 0, -4801, 1000);
        checks.vector("below", pilot, 0, 200, 200);
    }

    private static void everyFlyingMode(Checks checks) {
        FencePilot takeoff = Checks.armed();
        Checks.tickAt(takeoff, 4900, 0, 500);
        checks.vector("TAKEOFF", takeoff, -200, 0, 100);
        FencePilot pilot = Checks.holding();
        Checks.tickAt(pilot, 4900, 0, 500);
        checks.vector("HOLD", pilot, -200, 0, 0);
        pilot.command(Checks.LAND);
        Checks.tickAt(pilot, 4900, 10, 500);
        checks.vector("LAND", pilot, -200, -10, -50);
        pilot.command(Checks.RETURN);
        Checks.tickAt(pilot, 120, -4900, 500);
        checks.vector("RETURN", pilot, -120, 200, 0);
        pilot.command(Checks.LAND);
        Checks.tickAt(pilot, 4900, 0, 20);
        checks.same("mode()", pilot.mode(), Checks.DISARMED);
        checks.vector("DISARMED", pilot, 0, 0, 0);
    }

    private static void slantedEdge(Checks checks) {
        FencePilot pilot = new FencePilot();
        // The slanted edge runs along 3x + 4y = 5000, so points up to 3x + 4y = 4000 are safe.
        Checks.corners(pilot, -3000, 3500, -3000, -3000, 3000, -3000, 3000, -1000);
        pilot.fence(3000);
        Checks.tickAt(pilot, 0, 0, 0);
        pilot.arm();
        Checks.load(pilot, 2000, 2000, 1000);
        Checks.tickAt(pilot, 0, 0, 1000);
        checks.vector("far from it", pilot, 200, 200, 0);
        Checks.tickAt(pilot, 0, 650, 1000);
        checks.vector("all of it", pilot, 200, 200, 0);
        Checks.tickAt(pilot, 0, 651, 1000);
        checks.vector("three quarters", pilot, 150, 150, 0);
        Checks.tickAt(pilot, 0, 1000, 1000);
        checks.vector("none", pilot, 0, 0, 0);
        Checks.tickAt(pilot, 0, 1001, 1000);
        checks.vector("back", pilot, 0, -200, 0);
    }

    private static void ceiling(Checks checks) {
        FencePilot pilot = towards(0, 2000, 10000);
        int[][] cases = {{2600, 200}, {2601, 199}, {2799, 1}, {2800, 0}, {2801, -1}, {3000, -200},
            {3001, -200}};
        for (int[] c : cases) {
            Checks.tickAt(pilot, 0, 0, c[0]);
            checks.vector("at z " + c[0], pilot, 0, 200, c[1]);
        }
        FencePilot takeoff = new FencePilot();
        Checks.square(takeoff, 5000);
        takeoff.fence(1500);
        Checks.tickAt(takeoff, 0, 0, 0);
        takeoff.arm();
        Checks.tickAt(takeoff, 0, 0, 999);
        checks.vector("TAKEOFF below 1300", takeoff, 0, 0, 100);
        checks.same("HOLD", Checks.tickAt(takeoff, 0, 0, 1350), Checks.HOLD);
        checks.vector("HOLD above 1300", takeoff, 0, 0, -50);
    }

    private static void ceilingFarBelow(Checks checks) {
        FencePilot pilot = Checks.holding();
        pilot.command(Checks.LAND);
        Checks.tickAt(pilot, 0, 0, 2850);
        checks.vector("LAND 50 above", pilot, 0, 0, -50);
        Checks.tickAt(pilot, 0, 0, 2851);
        checks.vector("LAND 51 above", pilot, 0, 0, -51);
        Checks.tickAt(pilot, 6000, 0, 20000);
        checks.vector("LAND far above and outside", pilot, -200, 0, -200);
        FencePilot down = towards(0, 0, 500);
        Checks.tickAt(down, 0, 0, 9000);
        checks.vector("MISSION down from far above", down, 0, 0, -200);
    }

    private static void highestPlace(Checks checks) {
        FencePilot pilot = new FencePilot();
        Checks.square(pilot, 10000);
        pilot.fence(10000);
        Checks.tickAt(pilot, 0, 0, 0);
        pilot.arm();
        Checks.load(pilot, 10000, 10000, 10000);
        Checks.tickAt(pilot, 0, 0, 1000);
        Checks.tickAt(pilot, 9700, 9600, 9700);
        checks.vector("in the highest corner", pilot, 100, 100, 100);
        Checks.tickAt(pilot, 9800, 9800, 9800);
        checks.vector("at the very end", pilot, 0, 0, 0);
    }
}
