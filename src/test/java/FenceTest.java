/** Promises 2 corner, 3 erase, 4 fence and 18 safe. */
public final class FenceTest {
    public static void main(String[] args) {
        Checks checks = new Checks();
        cornerEdges(checks);
        eightCorners(checks);
        erased(checks);
        fenceTakesTheCorners(checks);
        fewCorners(checks);
        crookedCorners(checks);
        nearHome(checks);
        ceilings(checks);
        orderOfRefusals(checks);
        armedRefusesFence(checks);
        newFenceReplaces(checks);
        safeEdges(checks);
        safeOnSlantedEdges(checks);
        safeIsExact(checks);
        checks.finish();
    }

    private static void cornerEdges(Checks checks) {
        FencePilot pilot = new FencePilot();
        checks.yes("corner(10000, 10000)", pilot.corner(10000, 10000));
        checks.yes("corner(-10000, -10000)", pilot.corner(-10000, -10000));
        checks.no("corner(10001, 0)", pilot.corner(10001, 0));
        checks.no("corner(-10001, 0)", pilot.corner(-10001, 0));
        checks.no("corner(0, 10001)", pilot.corner(0, 10001));
        checks.no("corner(0, -10001)", pilot.corner(0, -10001));
        checks.no("corner(least, 0)", pilot.corner(Integer.MIN_VALUE, 0));
        checks.no("corner(0, most)", pilot.corner(0, Integer.MAX_VALUE));
        checks.same("refused corners are not given", pilot.fence(2000), FencePilot.FEW);
    }

    private static void eightCorners(Checks checks) {
        FencePilot pilot = new FencePilot();
        int[] ring = {4000, -2000, 4000, 2000, 2000, 4000, -2000, 4000,
            -4000, 2000, -4000, -2000, -2000, -4000, 2000, -4000};
        for (int i = 0; i < 16; i += 2) {
            checks.yes("corner " + i / 2, pilot.corner(ring[i], ring[i + 1]));
        }
        checks.no("a ninth corner", pilot.corner(0, 0));
        checks.same("fence(2000) with eight", pilot.fence(2000), 0);
        checks.yes("safe(3800, 0)", pilot.safe(3800, 0));
        checks.no("safe(3801, 0)", pilot.safe(3801, 0));
        checks.yes("safe(0, -3800)", pilot.safe(0, -3800));
        checks.no("safe(0, -3801)", pilot.safe(0, -3801));
        checks.yes("corner after the fence", pilot.corner(0, 0));
    }

    private static void erased(Checks checks) {
        FencePilot pilot = new FencePilot();
        pilot.erase();
        Checks.corners(pilot, 1, 1, 2, 2, 3, 3, 4, 4, 5, 5, 6, 6, 7, 7, 8, 8);
        checks.no("corner when full", pilot.corner(0, 0));
        pilot.erase();
        checks.same("fence(2000) when erased", pilot.fence(2000), FencePilot.FEW);
        Checks.square(pilot, 5000);
        checks.same("fence(2000) of new corners", pilot.fence(2000), 0);
        pilot.erase();
        checks.yes("erase leaves the fence", pilot.safe(0, 0));
    }

    private static void fenceTakesTheCorners(Checks checks) {
        FencePilot pilot = Checks.fenced();
        checks.same("fence(2000) again", pilot.fence(2000), FencePilot.FEW);
        checks.yes("the fence is still there", pilot.safe(4800, 4800));
        FencePilot refused = new FencePilot();
        Checks.square(refused, 5000);
        checks.same("fence(1499)", refused.fence(1499), FencePilot.BAD);
        checks.no("no fence after a refusal", refused.safe(0, 0));
        checks.same("the corners stay after a refusal", refused.fence(1500), 0);
    }

    private static void fewCorners(Checks checks) {
        FencePilot pilot = new FencePilot();
        checks.same("no corner", pilot.fence(2000), FencePilot.FEW);
        pilot.corner(-6000, -5000);
        checks.same("one corner", pilot.fence(2000), FencePilot.FEW);
        pilot.corner(6000, -5000);
        checks.same("two corners", pilot.fence(2000), FencePilot.FEW);
        pilot.corner(0, 7000);
        checks.same("three corners", pilot.fence(2000), 0);
    }

    private static int fenceOf(int... coordinates) {
        FencePilot pilot = new FencePilot();
        Checks.corners(pilot, coordinates);
        return pilot.fence(2000);
    }

    private static void crookedCorners(Checks checks) {
        int crooked = FencePilot.CROOKED;
        checks.same("the wrong way around", fenceOf(-5000, 5000, 5000, 5000, 5000, -5000, -5000, -5000), crooked);
        checks.same("a triangle the wrong way around", fenceOf(-6000, -5000, 0, 7000, 6000, -5000), crooked);
        checks.same("all in a line", fenceOf(-5000, 0, 0, 0, 5000, 0), crooked);
        checks.same("a corner in the line of an edge",
            fenceOf(-5000, -5000, 0, -5000, 5000, -5000, 5000, 5000, -5000, 5000), crooked);
        checks.same("the corner barely out of the line",
            fenceOf(-5000, -5000, 0, -5001, 5000, -5000, 5000, 5000, -5000, 5000), 0);
        checks.same("the corner barely inside the line",
            fenceOf(-5000, -5000, 0, -4999, 5000, -5000, 5000, 5000, -5000, 5000), crooked);
        checks.same("two equal neighbours",
            fenceOf(-5000, -5000, 5000, -5000, 5000, -5000, 5000, 5000, -5000, 5000), crooked);
        checks.same("the last equal to the first",
            fenceOf(-5000, -5000, 5000, -5000, 5000, 5000, -5000, 5000, -5000, -5000), crooked);
        checks.same("three equal corners", fenceOf(5, 5, 5, 5, 5, 5), crooked);
        checks.same("a triangle gone around twice",
            fenceOf(-6000, -5000, 6000, -5000, 0, 7000, -6000, -5000, 6000, -5000, 0, 7000), crooked);
        checks.same("a bow tie", fenceOf(-5000, -5000, 5000, 5000, 5000, -5000, -5000, 5000), crooked);
        checks.same("a star", fenceOf(0, 4000, -2351, -3236, 3804, 1236, -3804, 1236, 2351, -3236), crooked);
        checks.same("the largest square",
            fenceOf(-10000, -10000, 10000, -10000, 10000, 10000, -10000, 10000), 0);
    }

    private static void nearHome(Checks checks) {
        checks.same("clear by 1000", fenceOf(-1000, -1000, 1000, -1000, 1000, 1000, -1000, 1000), 0);
        checks.same("999 on the left", fenceOf(-999, -1000, 1000, -1000, 1000, 1000, -999, 1000), FencePilot.NEAR);
        checks.same("999 on the right", fenceOf(-1000, -1000, 999, -1000, 999, 1000, -1000, 1000), FencePilot.NEAR);
        checks.same("999 above", fenceOf(-1000, -1000, 1000, -1000, 1000, 999, -1000, 999), FencePilot.NEAR);
        checks.same("999 below", fenceOf(-1000, -999, 1000, -999, 1000, 1000, -1000, 1000), FencePilot.NEAR);
        checks.same("home outside", fenceOf(2000, 2000, 9000, 2000, 9000, 9000, 2000, 9000), FencePilot.NEAR);
        checks.same("home on an edge", fenceOf(-5000, 0, 5000, 0, 0, 5000), FencePilot.NEAR);
        // The slanted edge runs along 3x + 4y = 5000, 1000 away from home, and then one length nearer.
        checks.same("a slanted edge 1000 away",
            fenceOf(-3000, 3500, -3000, -3000, 3000, -3000, 3000, -1000), 0);
        checks.same("a slanted edge nearer",
            fenceOf(-3000, 3499, -3000, -3000, 3000, -3000, 3000, -1000), FencePilot.NEAR);
    }

    private static void ceilings(Checks checks) {
        int[] bad = {1499, 10001, 0, -1, Integer.MIN_VALUE, Integer.MAX_VALUE};
        for (int ceiling : bad) {
            FencePilot pilot = new FencePilot();
            Checks.square(pilot, 5000);
            checks.same("fence(" + ceiling + ")", pilot.fence(ceiling), FencePilot.BAD);
        }
        int[] good = {1500, 1501, 9999, 10000};
        for (int ceiling : good) {
            FencePilot pilot = new FencePilot();
            Checks.square(pilot, 5000);
            checks.same("fence(" + ceiling + ")", pilot.fence(ceiling), 0);
        }
    }

    private static void orderOfRefusals(Checks checks) {
        FencePilot pilot = new FencePilot();
        checks.same("FEW before BAD", pilot.fence(0), FencePilot.FEW);
        Checks.corners(pilot, 0, 0, 100, 100, 200, 0);
        checks.same("CROOKED before NEAR and BAD", pilot.fence(0), FencePilot.CROOKED);
        pilot.erase();
        Checks.square(pilot, 999);
        checks.same("NEAR before BAD", pilot.fence(0), FencePilot.NEAR);
        FencePilot armed = Checks.armed();
        checks.same("ARMED before FEW", armed.fence(0), FencePilot.ARMED);
    }

    private static void armedRefusesFence(Checks checks) {
        FencePilot pilot = Checks.armed();
        Checks.square(pilot, 2000);
        checks.same("fence(2000) in TAKEOFF", pilot.fence(2000), FencePilot.ARMED);
        for (int mode = Checks.HOLD; mode <= Checks.LAND; mode++) {
            pilot.command(mode);
            checks.same("fence(2000) in mode " + mode, pilot.fence(2000), FencePilot.ARMED);
        }
        checks.yes("the old fence stays", pilot.safe(4800, 0));
        Checks.tickAt(pilot, 0, 0, 0);
        checks.same("fence(2000) on the ground again", pilot.fence(2000), 0);
        checks.no("the new fence holds", pilot.safe(4800, 0));
        FencePilot mission = Checks.onMission(0, 0, 2000);
        Checks.square(mission, 2000);
        checks.same("fence(2000) in MISSION", mission.fence(2000), FencePilot.ARMED);
    }

    private static void newFenceReplaces(Checks checks) {
        FencePilot pilot = Checks.fenced();
        Checks.corners(pilot, -6000, -5000, 6000, -5000, 0, 7000);
        checks.same("fence(2000) of three after four", pilot.fence(2000), 0);
        checks.no("safe(-4800, 4800)", pilot.safe(-4800, 4800));
        checks.yes("safe(0, 6000)", pilot.safe(0, 6000));
    }

    private static void safeEdges(Checks checks) {
        FencePilot pilot = Checks.fenced();
        checks.yes("safe(4800, 4800)", pilot.safe(4800, 4800));
        checks.yes("safe(-4800, -4800)", pilot.safe(-4800, -4800));
        checks.no("safe(4801, 0)", pilot.safe(4801, 0));
        checks.no("safe(-4801, 0)", pilot.safe(-4801, 0));
        checks.no("safe(0, 4801)", pilot.safe(0, 4801));
        checks.no("safe(0, -4801)", pilot.safe(0, -4801));
        checks.no("safe(5000, 0) on the edge", pilot.safe(5000, 0));
        checks.no("safe(5300, 0) clear on the wrong side", pilot.safe(5300, 0));
        checks.no("safe(20000, 20000)", pilot.safe(20000, 20000));
        checks.no("safe(20001, 0)", pilot.safe(20001, 0));
        checks.no("safe(0, -20001)", pilot.safe(0, -20001));
        checks.no("safe(most, most)", pilot.safe(Integer.MAX_VALUE, Integer.MAX_VALUE));
        checks.no("safe(least, least)", pilot.safe(Integer.MIN_VALUE, Integer.MIN_VALUE));
        checks.no("safe without a fence", new FencePilot().safe(0, 0));
        // Far points whose int differences wrap around would seem to lie inside.
        checks.no("safe(2^31 - 4000, 0)", pilot.safe(Integer.MAX_VALUE - 4000, 0));
    }

    private static void safeOnSlantedEdges(Checks checks) {
        FencePilot pilot = new FencePilot();
        // The slanted edge runs along 3x + 4y = 5000, so 3x + 4y = 4000 is 200 inside of it.
        Checks.corners(pilot, -3000, 3500, -3000, -3000, 3000, -3000, 3000, -1000);
        checks.same("fence(2000)", pilot.fence(2000), 0);
        checks.yes("safe(0, 1000)", pilot.safe(0, 1000));
        checks.no("safe(0, 1001)", pilot.safe(0, 1001));
        checks.no("safe(1, 1000)", pilot.safe(1, 1000));
        checks.yes("safe(4, 997)", pilot.safe(4, 997));
        checks.no("safe(0, 1500)", pilot.safe(0, 1500));
    }

    private static void safeIsExact(Checks checks) {
        FencePilot pilot = new FencePilot();
        Checks.corners(pilot, 0, -10000, 10000, 0, 0, 10000, -10000, 0);
        checks.same("fence(2000) of the diamond", pilot.fence(2000), 0);
        // 200 times the root of two is 282.84, so the sum may be at most 9717.
        checks.yes("safe(9717, 0)", pilot.safe(9717, 0));
        checks.no("safe(9718, 0)", pilot.safe(9718, 0));
        checks.yes("safe(4858, 4859)", pilot.safe(4858, 4859));
        checks.no("safe(4859, 4859)", pilot.safe(4859, 4859));
        checks.yes("safe(-4858, -4859)", pilot.safe(-4858, -4859));
        checks.no("safe(-4859, 4859)", pilot.safe(-4859, 4859));
    }
}
