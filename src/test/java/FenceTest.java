/** Promises 2 corner, 3 erase, 4 fence and 18 safe, with what the terms say of the fence. */
public final class FenceTest {
    /** Eight corners, counterclockwise, with edges 4000 from home or slanted. */
    private static final int[] RING = {4000, -2000, 4000, 2000, 2000, 4000, -2000, 4000,
        -4000, 2000, -4000, -2000, -2000, -4000, 2000, -4000};

    public static void main(String[] args) {
        Checks checks = new Checks();
        cornersAreAdded(checks);
        noNinthCorner(checks);
        cornerReach(checks);
        erased(checks);
        becomesTheFence(checks);
        withThatCeiling(checks);
        noCornerGivenAfterTheFence(checks);
        refusedWhileArmed(checks);
        few(checks);
        threeToEight(checks);
        crooked(checks);
        othersOnTheSide(checks);
        equalEnds(checks);
        nearHome(checks);
        ceilings(checks);
        firstRefusal(checks);
        everyEdge(checks);
        sideNotNegative(checks);
        clearByAtLeast(checks);
        exact(checks);
        safeByTwoHundred(checks);
        safeWithoutAFence(checks);
        safeReach(checks);
        checks.finish();
    }

    private static FencePilot given(int... coordinates) {
        FencePilot pilot = new FencePilot();
        Checks.corners(pilot, coordinates);
        return pilot;
    }

    private static int fenceOf(int... coordinates) {
        return given(coordinates).fence(2000);
    }

    /** The same corners, beginning with another one of them. */
    private static int[] turned(int[] coordinates, int first) {
        int[] turned = new int[coordinates.length];
        for (int i = 0; i < coordinates.length; i++) {
            turned[i] = coordinates[(i + 2 * first) % coordinates.length];
        }
        return turned;
    }

    private static int[] firstCorners(int count) {
        return java.util.Arrays.copyOf(RING, 2 * count);
    }

    private static void cornersAreAdded(Checks checks) {
        checks.about("Adds a corner to those given.");
        FencePilot pilot = new FencePilot();
        for (int i = 0; i < 8; i++) {
            checks.yes("corner " + i, pilot.corner(RING[2 * i], RING[2 * i + 1]));
        }
        checks.same("fence(2000) of all", pilot.fence(2000), 0);
        checks.yes("an equal corner", pilot.corner(7, 7) && pilot.corner(7, 7));
        FencePilot flying = Checks.armed();
        Checks.square(flying, 2000);
        flying.command(Checks.LAND);
        Checks.tickAt(flying, 0, 0, 0);
        checks.same("corners given in the air", flying.fence(2000), 0);
    }

    private static void noNinthCorner(Checks checks) {
        checks.about("False when there are eight");
        FencePilot pilot = given(firstCorners(7));
        checks.yes("the eighth", pilot.corner(RING[14], RING[15]));
        checks.no("the ninth", pilot.corner(0, 0));
        checks.no("the tenth", pilot.corner(2000, -4000));
        checks.same("fence(2000) of the eight", pilot.fence(2000), 0);
        checks.yes("safe(3800, 0)", pilot.safe(3800, 0));
        checks.no("safe(3801, 0)", pilot.safe(3801, 0));
    }

    private static void cornerReach(Checks checks) {
        checks.about("or x or y is not from -10000 to 10000");
        FencePilot pilot = new FencePilot();
        int[] beyond = {-10001, 10001};
        for (int at : beyond) {
            checks.no("corner(" + at + ", 0)", pilot.corner(at, 0));
            checks.no("corner(0, " + at + ")", pilot.corner(0, at));
            checks.no("corner(" + at + ", " + at + ")", pilot.corner(at, at));
        }
        for (int at : Checks.FAR) {
            checks.no("corner(" + at + ", 0)", pilot.corner(at, 0));
            checks.no("corner(0, " + at + ")", pilot.corner(0, at));
        }
        checks.same("none of them is given", pilot.fence(2000), FencePilot.FEW);
        checks.yes("corner(-10000, -10000)", pilot.corner(-10000, -10000));
        checks.yes("corner(10000, -10000)", pilot.corner(10000, -10000));
        checks.yes("corner(10000, 10000)", pilot.corner(10000, 10000));
        checks.yes("corner(-10000, 10000)", pilot.corner(-10000, 10000));
        checks.same("fence(2000)", pilot.fence(2000), 0);
        checks.yes("safe(9800, -9800)", pilot.safe(9800, -9800));
        checks.no("safe(9801, 0)", pilot.safe(9801, 0));
    }

    private static void erased(Checks checks) {
        checks.about("No corner is given any more.");
        FencePilot none = new FencePilot();
        none.erase();
        checks.same("of none", none.fence(2000), FencePilot.FEW);
        FencePilot full = given(RING);
        checks.no("full", full.corner(0, 0));
        full.erase();
        checks.same("of eight", full.fence(2000), FencePilot.FEW);
        Checks.square(full, 5000);
        checks.same("new ones", full.fence(2000), 0);
        FencePilot three = given(-6000, -5000, 6000, -5000, 0, 7000);
        three.erase();
        Checks.corners(three, -6000, -5000, 6000, -5000);
        checks.same("two new ones after three", three.fence(2000), FencePilot.FEW);
        FencePilot fenced = Checks.fenced();
        fenced.erase();
        checks.yes("the fence stays", fenced.safe(4800, 4800));
        checks.same("but is not given again", fenced.fence(2000), FencePilot.FEW);
    }

    private static void becomesTheFence(Checks checks) {
        checks.about("The corners given become the fence");
        FencePilot pilot = Checks.fenced();
        checks.yes("safe in the first fence", pilot.safe(-4800, 4800));
        Checks.corners(pilot, -6000, -5000, 6000, -5000, 0, 7000);
        checks.yes("not before the call", pilot.safe(-4800, 4800));
        checks.same("three in the place of four", pilot.fence(2000), 0);
        checks.no("the first fence is gone", pilot.safe(-4800, 4800));
        checks.yes("the second holds", pilot.safe(0, 6000));
        Checks.corners(pilot, RING);
        checks.same("eight in the place of three", pilot.fence(2000), 0);
        checks.no("the second fence is gone", pilot.safe(0, 6000));
        checks.yes("the third holds", pilot.safe(0, 3800));
        checks.yes("a new corner", pilot.corner(0, 0));
        checks.yes("leaves the fence as it is", pilot.safe(0, 3800));
    }

    private static void withThatCeiling(Checks checks) {
        checks.about("with that ceiling");
        int[] ceilings = {1500, 1501, 9999, 10000};
        for (int ceiling : ceilings) {
            FencePilot pilot = Checks.armedIn(Checks.fenced(5000, ceiling));
            pilot.command(Checks.HOLD);
            Checks.tickAt(pilot, 0, 0, ceiling - 200);
            checks.vector("at its edge", pilot, 0, 0, 0);
            Checks.tickAt(pilot, 0, 0, ceiling - 199);
            checks.vector("one above", pilot, 0, 0, -1);
        }
        FencePilot second = Checks.fenced(5000, 9000);
        Checks.square(second, 5000);
        second.fence(1500);
        Checks.armedIn(second).command(Checks.HOLD);
        Checks.tickAt(second, 0, 0, 1301);
        checks.vector("the second one's", second, 0, 0, -1);
    }

    private static void noCornerGivenAfterTheFence(Checks checks) {
        checks.about("then no corner is given any more");
        FencePilot pilot = given(RING);
        checks.same("fence(2000)", pilot.fence(2000), 0);
        checks.same("fence(2000) again", pilot.fence(2000), FencePilot.FEW);
        for (int i = 0; i < 8; i++) {
            checks.yes("corner " + i, pilot.corner(RING[2 * i], RING[2 * i + 1]));
        }
        checks.no("a ninth corner", pilot.corner(0, 0));
        FencePilot refused = given(RING);
        checks.same("fence(1499)", refused.fence(1499), FencePilot.BAD);
        checks.no("no fence after a refusal", refused.safe(0, 0));
        checks.same("the corners stay after a refusal", refused.fence(1500), 0);
    }

    private static void refusedWhileArmed(Checks checks) {
        checks.about("ARMED");
        for (int mode = Checks.TAKEOFF; mode <= Checks.LAND; mode++) {
            FencePilot pilot = Checks.flyingIn(mode);
            Checks.square(pilot, 2000);
            checks.same("mode()", pilot.mode(), mode);
            checks.same("fence(2000) in mode " + mode, pilot.fence(2000), FencePilot.ARMED);
            checks.yes("the old fence stays", pilot.safe(4800, 0));
            pilot.command(Checks.LAND);
            checks.same("on the ground", Checks.tickAt(pilot, 0, 0, 0), Checks.DISARMED);
            checks.same("fence(2000) there", pilot.fence(2000), 0);
            checks.no("the new fence holds", pilot.safe(4800, 0));
        }
    }

    private static void few(Checks checks) {
        checks.about("FEW when fewer than three corners are given");
        FencePilot pilot = new FencePilot();
        checks.same("none", pilot.fence(2000), FencePilot.FEW);
        pilot.corner(-6000, -5000);
        checks.same("one", pilot.fence(2000), FencePilot.FEW);
        pilot.corner(6000, -5000);
        checks.same("two", pilot.fence(2000), FencePilot.FEW);
        pilot.corner(0, 7000);
        checks.same("three", pilot.fence(2000), 0);
    }

    private static void threeToEight(Checks checks) {
        checks.about("THE FENCE is a list of 3 to 8 corners");
        // Every so many of the ring's corners, so that home stays inside.
        int[][] picks = {{}, {0}, {0, 3}, {0, 3, 6}, {0, 2, 4, 6}, {0, 2, 3, 4, 6}, {0, 1, 2, 4, 5, 6},
            {0, 1, 2, 3, 4, 5, 6}, {0, 1, 2, 3, 4, 5, 6, 7}};
        for (int[] pick : picks) {
            FencePilot pilot = new FencePilot();
            for (int i : pick) {
                pilot.corner(RING[2 * i], RING[2 * i + 1]);
            }
            checks.same(pick.length + " corners", pilot.fence(2000), pick.length < 3 ? FencePilot.FEW : 0);
            checks.same("safe(0, 0)", pilot.safe(0, 0) ? 1 : 0, pick.length < 3 ? 0 : 1);
        }
    }

    private static void crooked(Checks checks) {
        checks.about("CROOKED when they are not convex");
        int crooked = FencePilot.CROOKED;
        checks.same("clockwise", fenceOf(-5000, 5000, 5000, 5000, 5000, -5000, -5000, -5000), crooked);
        checks.same("counterclockwise", fenceOf(-5000, -5000, 5000, -5000, 5000, 5000, -5000, 5000), 0);
        checks.same("a clockwise triangle", fenceOf(-6000, -5000, 0, 7000, 6000, -5000), crooked);
        checks.same("all in a line", fenceOf(-5000, 0, 0, 0, 5000, 0), crooked);
        checks.same("a bow tie", fenceOf(-5000, -5000, 5000, 5000, 5000, -5000, -5000, 5000), crooked);
        checks.same("a star", fenceOf(0, 4000, -2351, -3236, 3804, 1236, -3804, 1236, 2351, -3236), crooked);
        checks.same("an arrow", fenceOf(-5000, -5000, 0, -2000, 5000, -5000, 0, 7000), crooked);
        for (int first = 0; first < 8; first++) {
            checks.same("eight from " + first, fenceOf(turned(RING, first)), 0);
        }
    }

    private static void othersOnTheSide(Checks checks) {
        checks.about("for every edge the side of every corner that is not an end of that edge is more than 0");
        int[] shape = {-5000, -5000, 0, -5000, 5000, -5000, 5000, 5000, -5000, 5000};
        for (int first = 0; first < 5; first++) {
            shape[3] = -5000;
            checks.same("in the line", fenceOf(turned(shape, first)), FencePilot.CROOKED);
            shape[3] = -5001;
            checks.same("one beyond the line", fenceOf(turned(shape, first)), 0);
            shape[3] = -4999;
            checks.same("one inside the line", fenceOf(turned(shape, first)), FencePilot.CROOKED);
        }
        // 19999 * 19999 - 20000 * 19998 is 1, and 19999 - 20000 is -1.
        checks.same("a side of 1", fenceOf(-10000, -10000, 9999, 10000, 9998, 9999), FencePilot.NEAR);
        checks.same("a side of -1", fenceOf(-10000, -10000, 9999, 10000, -9999, -9999), FencePilot.CROOKED);
        checks.same("a side of 0", fenceOf(-10000, -10000, 10000, 10000, 0, 0), FencePilot.CROOKED);
        checks.same("a triangle gone around twice",
            fenceOf(-6000, -5000, 6000, -5000, 0, 7000, -6000, -5000, 6000, -5000, 0, 7000),
            FencePilot.CROOKED);
    }

    private static void equalEnds(Checks checks) {
        checks.about("no edge has two equal ends");
        int[] shape = {-5000, -5000, 5000, -5000, 5000, -5000, 5000, 5000, -5000, 5000};
        for (int first = 0; first < 5; first++) {
            shape[4] = 5000;
            checks.same("equal", fenceOf(turned(shape, first)), FencePilot.CROOKED);
            shape[4] = 5001;
            checks.same("one apart", fenceOf(turned(shape, first)), FencePilot.CROOKED);
            shape[5] = -4999;
            checks.same("one apart and outwards", fenceOf(turned(shape, first)), 0);
            shape[5] = -5000;
        }
        checks.same("an edge of length 1",
            fenceOf(-5000, -6000, 5000, -5000, 5000, -4999, 4000, 5000, -5000, 5000), 0);
        checks.same("the same edge of length 0",
            fenceOf(-5000, -6000, 5000, -5000, 5000, -5000, 4000, 5000, -5000, 5000), FencePilot.CROOKED);
        checks.same("a triangle with two equal", fenceOf(-6000, -5000, -6000, -5000, 0, 7000),
            FencePilot.CROOKED);
        checks.same("three equal", fenceOf(5, 5, 5, 5, 5, 5), FencePilot.CROOKED);
        checks.same("three at home", fenceOf(0, 0, 0, 0, 0, 0), FencePilot.CROOKED);
    }

    private static void nearHome(Checks checks) {
        checks.about("NEAR when home is not clear of all their edges by 1000");
        int near = FencePilot.NEAR;
        checks.same("all by 1000", fenceOf(-1000, -1000, 1000, -1000, 1000, 1000, -1000, 1000), 0);
        checks.same("left by 999", fenceOf(-999, -1000, 1000, -1000, 1000, 1000, -999, 1000), near);
        checks.same("right by 999", fenceOf(-1000, -1000, 999, -1000, 999, 1000, -1000, 1000), near);
        checks.same("above by 999", fenceOf(-1000, -1000, 1000, -1000, 1000, 999, -1000, 999), near);
        checks.same("below by 999", fenceOf(-1000, -999, 1000, -999, 1000, 1000, -1000, 1000), near);
        checks.same("home on an edge", fenceOf(-5000, 0, 5000, 0, 0, 5000), near);
        checks.same("home is a corner", fenceOf(0, 0, 5000, 0, 5000, 5000), near);
        checks.same("outside by 1000", fenceOf(-5000, 1000, 5000, 1000, 5000, 9000, -5000, 9000), near);
        checks.same("outside by more", fenceOf(2000, 2000, 9000, 2000, 9000, 9000, 2000, 9000), near);
        // The slanted edge runs along 3x + 4y = 5000, 1000 away from home, and then a bit nearer.
        checks.same("slanted by 1000", fenceOf(-3000, 3500, -3000, -3000, 3000, -3000, 3000, -1000), 0);
        checks.same("slanted nearer", fenceOf(-3000, 3499, -3000, -3000, 3000, -3000, 3000, -1000), near);
        // A thousand times the root of two is 1414.2.
        checks.same("a diamond of 1415", fenceOf(0, -1415, 1415, 0, 0, 1415, -1415, 0), 0);
        checks.same("a diamond of 1414", fenceOf(0, -1414, 1414, 0, 0, 1414, -1414, 0), near);
    }

    private static void ceilings(Checks checks) {
        checks.about("BAD when ceiling is not from 1500 to 10000");
        FencePilot pilot = given(RING);
        int[] beyond = {1499, 10001, 0, -1, -1500, -10000};
        for (int ceiling : beyond) {
            checks.same("fence(" + ceiling + ")", pilot.fence(ceiling), FencePilot.BAD);
        }
        for (int ceiling : Checks.FAR) {
            checks.same("fence(" + ceiling + ")", pilot.fence(ceiling), FencePilot.BAD);
        }
        int[] good = {1500, 1501, 9999, 10000};
        for (int ceiling : good) {
            checks.same("fence(" + ceiling + ")", given(RING).fence(ceiling), 0);
        }
    }

    private static void firstRefusal(Checks checks) {
        checks.about("of several refusals the one named first is answered");
        int[][] shapes = {{}, {0, 0, 100, 100, 200, 0}, {0, 0, 200, 0, 100, 100}, RING};
        int[] due = {FencePilot.FEW, FencePilot.CROOKED, FencePilot.NEAR, FencePilot.BAD};
        for (int i = 0; i < shapes.length; i++) {
            checks.same("fence(0) of shape " + i, given(shapes[i]).fence(0), due[i]);
            FencePilot armed = Checks.armed();
            Checks.corners(armed, shapes[i]);
            checks.same("fence(0) of shape " + i + " while armed", armed.fence(0), FencePilot.ARMED);
        }
        FencePilot full = given(RING);
        checks.no("a ninth corner that is beyond the map", full.corner(10001, 0));
    }

    private static void everyEdge(Checks checks) {
        checks.about("Its EDGES go from each corner to the next one, and from the last one to the first");
        int[][] inside = {{3800, 0}, {0, 3800}, {-3800, 0}, {0, -3800}};
        int[][] beyond = {{3801, 0}, {0, 3801}, {-3801, 0}, {0, -3801}};
        // The slanted edges run along x + y = 6000; 200 times the root of two is 282.84.
        int[][] slanted = {{2858, 2859}, {-2858, 2859}, {-2858, -2859}, {2858, -2859}};
        int[][] past = {{2859, 2859}, {-2859, 2859}, {-2859, -2859}, {2859, -2859}};
        for (int first = 0; first < 8; first++) {
            FencePilot pilot = given(turned(RING, first));
            pilot.fence(2000);
            for (int i = 0; i < 4; i++) {
                checks.yes("inside", pilot.safe(inside[i][0], inside[i][1]));
                checks.no("beyond", pilot.safe(beyond[i][0], beyond[i][1]));
                checks.yes("inside a slanted edge", pilot.safe(slanted[i][0], slanted[i][1]));
                checks.no("past a slanted edge", pilot.safe(past[i][0], past[i][1]));
            }
        }
    }

    private static void sideNotNegative(Checks checks) {
        checks.about("p is CLEAR of the edge by m when its side is not negative");
        FencePilot pilot = Checks.fenced();
        checks.yes("200 inside", pilot.safe(4800, 0));
        checks.no("200 outside", pilot.safe(5200, 0));
        checks.no("201 outside", pilot.safe(0, -5201));
        checks.no("far outside", pilot.safe(-20000, 0));
        checks.no("on the edge", pilot.safe(5000, 0));
        checks.no("at a corner", pilot.safe(5000, 5000));
    }

    private static void clearByAtLeast(Checks checks) {
        checks.about("the square of its side is at least m * m * ((bx - ax)^2 + (by - ay)^2)");
        // The slanted edge runs along 3x + 4y = 5000, so 3x + 4y = 4000 is 200 inside of it.
        FencePilot pilot = given(-3000, 3500, -3000, -3000, 3000, -3000, 3000, -1000);
        checks.same("fence(2000)", pilot.fence(2000), 0);
        checks.yes("safe(0, 1000)", pilot.safe(0, 1000));
        checks.no("safe(0, 1001)", pilot.safe(0, 1001));
        checks.no("safe(1, 1000)", pilot.safe(1, 1000));
        checks.yes("safe(4, 997)", pilot.safe(4, 997));
        checks.yes("safe(-4, 1003)", pilot.safe(-4, 1003));
        checks.no("safe(-3, 1003)", pilot.safe(-3, 1003));
    }

    private static void exact(Checks checks) {
        checks.about("All this is exact.");
        FencePilot diamond = given(0, -10000, 10000, 0, 0, 10000, -10000, 0);
        checks.same("the largest diamond", diamond.fence(2000), 0);
        // 200 times the root of two is 282.84, so the sum may be at most 9717.
        for (int x = 0; x <= 9717; x += 347) {
            checks.yes("safe at " + x, diamond.safe(x, 9717 - x) && diamond.safe(-x, x - 9717));
            checks.no("safe past " + x, diamond.safe(x, 9718 - x) || diamond.safe(-x, x - 9718));
        }
        FencePilot square = Checks.fenced(10000, 2000);
        // Squares of sides go beyond what an int holds, and differ in what would be left of them.
        for (int x = -9800; x <= 9800; x += 175) {
            checks.yes("safe(" + x + ", 9800)", square.safe(x, 9800) && square.safe(9800, x));
            checks.no("safe(" + x + ", 9801)", square.safe(x, 9801) || square.safe(9801, x));
            checks.no("safe(" + x + ", 20000)", square.safe(x, 20000) || square.safe(-20000, x));
        }
    }

    private static void safeByTwoHundred(Checks checks) {
        checks.about("A point is SAFE when it is clear of all edges of the fence by 200.");
        FencePilot pilot = Checks.fenced();
        int[] signs = {-1, 1};
        for (int sign : signs) {
            checks.yes("a corner of the safe part", pilot.safe(4800 * sign, 4800));
            checks.yes("a corner of the safe part", pilot.safe(4800 * sign, -4800));
            checks.no("x one too far", pilot.safe(4801 * sign, 0));
            checks.no("y one too far", pilot.safe(0, 4801 * sign));
        }
        checks.yes("home", pilot.safe(0, 0));
    }

    private static void safeWithoutAFence(Checks checks) {
        checks.about("false when there is no fence");
        FencePilot pilot = new FencePilot();
        checks.no("a new object", pilot.safe(0, 0));
        Checks.square(pilot, 5000);
        checks.no("corners alone", pilot.safe(0, 0));
        pilot.fence(1499);
        checks.no("a refused fence", pilot.safe(0, 0));
        pilot.fence(1500);
        checks.yes("a fence", pilot.safe(0, 0));
    }

    private static void safeReach(Checks checks) {
        checks.about("or x or y is not from -20000 to 20000");
        FencePilot pilot = Checks.fenced(10000, 2000);
        int[] beyond = {-20001, -20000, 20000, 20001};
        for (int at : beyond) {
            checks.no("safe(" + at + ", 0)", pilot.safe(at, 0));
            checks.no("safe(0, " + at + ")", pilot.safe(0, at));
        }
        for (int at : Checks.FAR) {
            checks.no("safe(" + at + ", 0)", pilot.safe(at, 0));
            checks.no("safe(0, " + at + ")", pilot.safe(0, at));
            checks.no("safe(" + at + ", " + at + ")", pilot.safe(at, at));
        }
        // Points whose int differences or products wrap around would seem to lie inside.
        for (int shift = 17; shift <= 31; shift++) {
            checks.no("safe(2^" + shift + ", 0)", pilot.safe(1 << shift, 0));
            checks.no("safe(0, 2^" + shift + " + 5)", pilot.safe(0, (1 << shift) + 5));
        }
        checks.no("safe(2^31 - 4000, 0)", pilot.safe(Integer.MAX_VALUE - 4000, 0));
    }
}
