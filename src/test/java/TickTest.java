/** Promises 9 beat, 12 tick and 14 demand: the failsafes, the modes and the guidance of a tick. */
public final class TickTest {
    public static void main(String[] args) {
        Checks checks = new Checks();
        batteryEdges(checks);
        refusedTickChangesNothing(checks);
        disarmedTick(checks);
        flatBattery(checks);
        lostTooLong(checks);
        lowBattery(checks);
        silence(checks);
        beats(checks);
        silenceOnTheGround(checks);
        takeoff(checks);
        waypoints(checks);
        reachedEdges(checks);
        returning(checks);
        landing(checks);
        modesWaitWhileLost(checks);
        demandsWhileLost(checks);
        missionDemand(checks);
        demandAxes(checks);
        twoChangesInOneTick(checks);
        checks.finish();
    }

    private static void batteryEdges(Checks checks) {
        int[] bad = {-1, 101, Integer.MIN_VALUE, Integer.MAX_VALUE};
        FencePilot pilot = Checks.holding();
        for (int battery : bad) {
            checks.same("tick(" + battery + ")", pilot.tick(battery), FencePilot.BAD);
        }
        checks.same("tick(100)", Checks.tickAt(pilot, 0, 0, 1000, 100), Checks.HOLD);
        checks.same("tick(0)", Checks.tickAt(pilot, 0, 0, 1000, 0), Checks.LAND);
        checks.same("tick(0) on the ground", new FencePilot().tick(0), Checks.DISARMED);
    }

    private static void refusedTickChangesNothing(Checks checks) {
        FencePilot pilot = Checks.onMission(1000, 0, 1000);
        for (int i = 0; i < 40; i++) {
            pilot.tick(-1);
        }
        checks.same("lost()", pilot.lost(), 0);
        checks.vector("stays", pilot, 200, 0, 0);
        checks.same("not silent", Checks.tickAt(pilot, 0, 0, 1000), Checks.MISSION);
        pilot.command(Checks.HOLD);
        checks.same("the count of ticks", pilot.change(0), 8 * 3 + Checks.HOLD);
    }

    private static void disarmedTick(Checks checks) {
        FencePilot pilot = Checks.armed();
        Checks.tickAt(pilot, 0, 0, 400);
        checks.vector("in TAKEOFF", pilot, 0, 0, 100);
        pilot.command(Checks.LAND);
        Checks.tickAt(pilot, 0, 0, 20);
        checks.vector("on the ground", pilot, 0, 0, 0);
        checks.same("tick(0) on the ground", Checks.tickAt(pilot, 9000, 0, 4000, 0), Checks.DISARMED);
        checks.vector("no guard on the ground", pilot, 0, 0, 0);
        checks.place("voted on the ground", pilot, 9000, 0, 4000);
    }

    private static void flatBattery(Checks checks) {
        for (int mode = Checks.HOLD; mode <= Checks.LAND; mode++) {
            FencePilot pilot = Checks.holding();
            pilot.command(mode);
            checks.same("tick(9) in mode " + mode, Checks.tickAt(pilot, 0, 500, 1000, 9), Checks.LAND);
            checks.vector("LAND", pilot, 0, 0, -50);
        }
        checks.same("tick(9) in TAKEOFF", Checks.tickAt(Checks.armed(), 0, 0, 500, 9), Checks.LAND);
        checks.same("tick(10) in TAKEOFF", Checks.tickAt(Checks.armed(), 500, 0, 500, 10), Checks.RETURN);
        FencePilot mission = Checks.onMission(1000, 0, 1000);
        checks.same("tick(9) in MISSION", Checks.tickAt(mission, 500, 0, 1000, 9), Checks.LAND);
    }

    private static void lostTooLong(Checks checks) {
        FencePilot pilot = Checks.onMission(1000, 0, 1000);
        for (int i = 1; i <= 4; i++) {
            checks.same("lost " + i, pilot.tick(90), Checks.MISSION);
            checks.vector("lost", pilot, 0, 0, 0);
        }
        checks.same("lost 5", pilot.tick(90), Checks.LAND);
        checks.vector("blind LAND", pilot, 0, 0, -50);
        checks.same("forced", pilot.command(Checks.HOLD), FencePilot.REFUSED);
        checks.same("lost 6", pilot.tick(90), Checks.LAND);
        checks.same("found again", Checks.tickAt(pilot, 0, 0, 900), Checks.LAND);
        checks.same("still forced", pilot.command(Checks.HOLD), FencePilot.REFUSED);
    }

    private static void lowBattery(Checks checks) {
        FencePilot pilot = Checks.holding();
        checks.same("tick(25)", Checks.tickAt(pilot, 500, 0, 1000, 25), Checks.HOLD);
        checks.same("tick(24)", Checks.tickAt(pilot, 500, 0, 1000, 24), Checks.RETURN);
        int change = pilot.change(0);
        checks.same("tick(24) in RETURN", Checks.tickAt(pilot, 500, 0, 1000, 24), Checks.RETURN);
        checks.same("no second change", pilot.change(0), change);
        pilot.command(Checks.LAND);
        checks.same("tick(24) in LAND", Checks.tickAt(pilot, 500, 0, 1000, 24), Checks.LAND);
        checks.same("tick(10) in LAND", Checks.tickAt(pilot, 500, 0, 1000, 10), Checks.LAND);
        checks.same("not forced", pilot.command(Checks.HOLD), 0);
        FencePilot mission = Checks.onMission(1000, 0, 1000);
        checks.same("tick(24) in MISSION", Checks.tickAt(mission, 500, 0, 1000, 24), Checks.RETURN);
        checks.same("tick(24) while lost", blindTick(Checks.onMission(1000, 0, 1000)), Checks.RETURN);
    }

    private static int blindTick(FencePilot pilot) {
        return pilot.tick(24);
    }

    private static void silence(Checks checks) {
        FencePilot pilot = Checks.holding();
        pilot.beat();
        for (int i = 1; i <= 19; i++) {
            checks.same("silent " + i, Checks.tickAt(pilot, 500, 0, 1000), Checks.HOLD);
        }
        checks.same("silent 20", Checks.tickAt(pilot, 500, 0, 1000), Checks.RETURN);
        pilot.command(Checks.HOLD);
        checks.same("silent 21", Checks.tickAt(pilot, 500, 0, 1000), Checks.RETURN);
        pilot.command(Checks.LAND);
        checks.same("silent 22 in LAND", Checks.tickAt(pilot, 500, 0, 1000), Checks.LAND);
        checks.same("not forced", pilot.command(Checks.HOLD), 0);
        pilot.beat();
        checks.same("after a beat", Checks.tickAt(pilot, 500, 0, 1000), Checks.HOLD);
    }

    private static void beats(Checks checks) {
        FencePilot pilot = Checks.holding();
        for (int i = 0; i < 60; i++) {
            if (i % 19 == 0) {
                pilot.beat();
            }
            checks.same("with beats", Checks.tickAt(pilot, 500, 0, 1000), Checks.HOLD);
        }
        FencePilot once = Checks.holding();
        for (int i = 3; i <= 19; i++) {
            checks.same("never a beat, tick " + i, Checks.tickAt(once, 500, 0, 1000), Checks.HOLD);
        }
        checks.same("never a beat, tick 20", Checks.tickAt(once, 500, 0, 1000), Checks.RETURN);
    }

    private static void silenceOnTheGround(Checks checks) {
        FencePilot pilot = Checks.fenced();
        Checks.ticks(pilot, 18);
        Checks.tickAt(pilot, 0, 0, 0);
        pilot.arm();
        checks.same("tick 20", Checks.tickAt(pilot, 500, 0, 100), Checks.RETURN);
        checks.vector("RETURN", pilot, -200, 0, 0);
    }

    private static void takeoff(Checks checks) {
        FencePilot pilot = Checks.armed();
        checks.same("999 high", Checks.tickAt(pilot, 0, 0, 999), Checks.TAKEOFF);
        checks.vector("TAKEOFF", pilot, 0, 0, 100);
        checks.same("1000 high", Checks.tickAt(pilot, 0, 0, 1000), Checks.HOLD);
        checks.vector("HOLD", pilot, 0, 0, 0);
        FencePilot mission = Checks.armed();
        Checks.load(mission, 0, 0, 1000);
        checks.same("999 high", Checks.tickAt(mission, 0, 0, 999), Checks.TAKEOFF);
        checks.same("1000 high with a mission", Checks.tickAt(mission, 0, 0, 1000), Checks.MISSION);
        checks.same("reached one tick later", mission.waypoint(), 0);
        checks.same("and then home", Checks.tickAt(mission, 0, 0, 1000), Checks.RETURN);
    }

    private static void waypoints(Checks checks) {
        FencePilot pilot = Checks.onMission(1000, 0, 1000, 1000, 1000, 1200, 1000, 1000, 1200);
        checks.same("waypoint()", pilot.waypoint(), 0);
        checks.same("on the way", Checks.tickAt(pilot, 500, 0, 1000), Checks.MISSION);
        checks.same("waypoint() on the way", pilot.waypoint(), 0);
        Checks.tickAt(pilot, 1000, 0, 1000);
        checks.same("waypoint() after the first", pilot.waypoint(), 1);
        checks.vector("to the second", pilot, 0, 200, 200);
        Checks.tickAt(pilot, 1000, 1000, 1200);
        checks.same("one waypoint a tick", pilot.waypoint(), 2);
        checks.same("after the last", Checks.tickAt(pilot, 1000, 1000, 1200), Checks.RETURN);
        checks.same("waypoint() after the last", pilot.waypoint(), 0);
        checks.vector("to home", pilot, -200, -200, 0);
        pilot.command(Checks.MISSION);
        Checks.tickAt(pilot, 1000, 0, 1000);
        checks.same("flown again", pilot.waypoint(), 1);
        pilot.command(Checks.HOLD);
        Checks.tickAt(pilot, 1000, 1000, 1200);
        checks.same("waypoint() stays in HOLD", pilot.waypoint(), 1);
    }

    private static void reachedEdges(Checks checks) {
        int[][] near = {{1100, 100, 1100}, {900, -100, 900}, {1000, 0, 1000}};
        for (int[] p : near) {
            FencePilot pilot = Checks.onMission(1000, 0, 1000, 3000, 0, 1000);
            Checks.tickAt(pilot, p[0], p[1], p[2]);
            checks.same("reached at " + p[0], pilot.waypoint(), 1);
        }
        int[][] far = {{1101, 0, 1000}, {899, 0, 1000}, {1000, 101, 1000}, {1000, -101, 1000},
            {1000, 0, 1101}, {1000, 0, 899}};
        for (int[] p : far) {
            FencePilot pilot = Checks.onMission(1000, 0, 1000, 3000, 0, 1000);
            Checks.tickAt(pilot, p[0], p[1], p[2]);
            checks.same("not reached at " + p[0] + ", " + p[1] + ", " + p[2], pilot.waypoint(), 0);
        }
    }

    private static int modeReturningAt(int x, int y) {
        FencePilot pilot = Checks.holding();
        pilot.command(Checks.RETURN);
        return Checks.tickAt(pilot, x, y, 1000);
    }

    private static void returning(Checks checks) {
        checks.same("100, 100", modeReturningAt(100, 100), Checks.LAND);
        checks.same("-100, -100", modeReturningAt(-100, -100), Checks.LAND);
        checks.same("101, 0", modeReturningAt(101, 0), Checks.RETURN);
        checks.same("-101, 0", modeReturningAt(-101, 0), Checks.RETURN);
        checks.same("0, 101", modeReturningAt(0, 101), Checks.RETURN);
        checks.same("0, -101", modeReturningAt(0, -101), Checks.RETURN);
        FencePilot pilot = Checks.holding();
        pilot.command(Checks.RETURN);
        Checks.tickAt(pilot, -150, 199, 1000);
        checks.vector("nearer than 200", pilot, 150, -199, 0);
        Checks.tickAt(pilot, 201, -4800, 1000);
        checks.vector("farther than 200", pilot, -200, 200, 0);
    }

    private static void landing(Checks checks) {
        FencePilot pilot = Checks.holding();
        pilot.command(Checks.LAND);
        checks.same("21 high", Checks.tickAt(pilot, 3000, 0, 21), Checks.LAND);
        checks.vector("LAND", pilot, 0, 0, -50);
        checks.same("20 high", Checks.tickAt(pilot, 3000, 0, 20), Checks.DISARMED);
        FencePilot below = Checks.holding();
        below.command(Checks.LAND);
        checks.same("below the ground", Checks.tickAt(below, 0, 0, -2000), Checks.DISARMED);
    }

    private static void modesWaitWhileLost(Checks checks) {
        FencePilot takeoff = Checks.fenced();
        Checks.tickAt(takeoff, 0, 0, 1000);
        takeoff.arm();
        checks.same("TAKEOFF while lost", takeoff.tick(90), Checks.TAKEOFF);
        FencePilot landing = Checks.holding();
        Checks.tickAt(landing, 0, 0, 20);
        landing.command(Checks.LAND);
        checks.same("LAND while lost", landing.tick(90), Checks.LAND);
        FencePilot home = Checks.holding();
        home.command(Checks.RETURN);
        checks.same("RETURN while lost", home.tick(90), Checks.RETURN);
        FencePilot mission = Checks.onMission(0, 0, 1000, 100, 0, 1000);
        checks.same("MISSION while lost", mission.tick(90), Checks.MISSION);
        checks.same("waypoint()", mission.waypoint(), 0);
    }

    private static void demandsWhileLost(Checks checks) {
        FencePilot pilot = Checks.armed();
        pilot.tick(90);
        checks.vector("TAKEOFF", pilot, 0, 0, 0);
        FencePilot home = Checks.holding();
        Checks.tickAt(home, 3000, 3000, 1000);
        home.command(Checks.RETURN);
        home.tick(90);
        checks.vector("RETURN", home, 0, 0, 0);
        FencePilot outside = Checks.holding();
        Checks.tickAt(outside, 6000, 0, 9000);
        checks.vector("guarded", outside, -200, 0, -200);
        outside.tick(90);
        checks.vector("no guard while lost", outside, 0, 0, 0);
        outside.command(Checks.LAND);
        outside.tick(90);
        checks.vector("LAND", outside, 0, 0, -50);
    }

    private static void missionDemand(Checks checks) {
        FencePilot pilot = Checks.onMission(0, 0, 2000);
        Checks.tickAt(pilot, 199, -201, 1801);
        checks.vector("less than 200 and more", pilot, -199, 200, 199);
        Checks.tickAt(pilot, -150, 101, 2201);
        checks.vector("from above", pilot, 150, -101, -200);
        FencePilot wide = new FencePilot();
        Checks.square(wide, 10000);
        wide.fence(10000);
        Checks.tickAt(wide, 0, 0, 0);
        wide.arm();
        Checks.load(wide, -10000, 10000, 500);
        Checks.tickAt(wide, 0, 0, 1000);
        checks.vector("far away", wide, -200, 200, -200);
    }

    private static void demandAxes(Checks checks) {
        FencePilot pilot = Checks.onMission(110, -120, 1130);
        checks.vector("axes", pilot, 110, -120, 130);
        int[] bad = {-1, 3, Integer.MIN_VALUE, Integer.MAX_VALUE};
        for (int axis : bad) {
            checks.same("demand(" + axis + ")", pilot.demand(axis), 0);
        }
        pilot.command(Checks.LAND);
        checks.vector("of the latest tick", pilot, 110, -120, 130);
    }

    private static void twoChangesInOneTick(Checks checks) {
        FencePilot pilot = Checks.holding();
        checks.same("low at home", Checks.tickAt(pilot, 0, 0, 1000, 24), Checks.LAND);
        checks.same("change(0)", pilot.change(0), 8 * 3 + Checks.LAND);
        checks.same("change(1)", pilot.change(1), 8 * 3 + Checks.RETURN);
        checks.same("not forced", pilot.command(Checks.HOLD), 0);
        FencePilot low = Checks.holding();
        checks.same("flat on the ground", Checks.tickAt(low, 0, 0, 10, 5), Checks.DISARMED);
        checks.same("change(0)", low.change(0), 8 * 3 + Checks.DISARMED);
        checks.same("change(1)", low.change(1), 8 * 3 + Checks.LAND);
        checks.vector("on the ground", low, 0, 0, 0);
    }
}
