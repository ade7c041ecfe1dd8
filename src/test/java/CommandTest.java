/** Promises 10 arm, 11 command and 13 mode. */
public final class CommandTest {
    public static void main(String[] args) {
        Checks checks = new Checks();
        arming(checks);
        armNeedsAPlace(checks);
        armOnceOnly(checks);
        commandEdges(checks);
        grounded(checks);
        takeoffRefusesMission(checks);
        emptyMission(checks);
        everyModeFromEveryMode(checks);
        forcedLandRefuses(checks);
        ownLandIsNotForced(checks);
        landIsForcedLater(checks);
        forceEndsOnTheGround(checks);
        checks.finish();
    }

    private static void arming(Checks checks) {
        FencePilot pilot = new FencePilot();
        checks.same("NOFENCE before NOPLACE", pilot.arm(), FencePilot.NOFENCE);
        Checks.tickAt(pilot, 0, 0, 0);
        checks.same("NOFENCE with a place", pilot.arm(), FencePilot.NOFENCE);
        Checks.square(pilot, 5000);
        checks.same("corners are no fence", pilot.arm(), FencePilot.NOFENCE);
        pilot.fence(3000);
        checks.same("arm()", pilot.arm(), 0);
        checks.same("mode()", pilot.mode(), Checks.TAKEOFF);
    }

    private static void armNeedsAPlace(Checks checks) {
        FencePilot pilot = Checks.fenced();
        checks.same("never voted", pilot.arm(), FencePilot.NOPLACE);
        Checks.tickAt(pilot, 4801, 0, 0);
        checks.same("x not safe", pilot.arm(), FencePilot.NOPLACE);
        Checks.tickAt(pilot, 0, -4801, 0);
        checks.same("y not safe", pilot.arm(), FencePilot.NOPLACE);
        Checks.tickAt(pilot, 4800, -4800, 0);
        pilot.tick(90);
        checks.same("lost", pilot.arm(), FencePilot.NOPLACE);
        checks.same("mode()", pilot.mode(), Checks.DISARMED);
        checks.same("change(0)", pilot.change(0), -1);
        Checks.tickAt(pilot, 4800, -4800, 0);
        checks.same("just safe", pilot.arm(), 0);
        FencePilot high = Checks.fenced();
        Checks.tickAt(high, 0, 0, 20000);
        checks.same("the height does not count", high.arm(), 0);
    }

    private static void armOnceOnly(Checks checks) {
        FencePilot pilot = Checks.armed();
        checks.same("arm() in TAKEOFF", pilot.arm(), FencePilot.ARMED);
        pilot.tick(90);
        checks.same("ARMED before NOPLACE", pilot.arm(), FencePilot.ARMED);
        for (int mode = Checks.HOLD; mode <= Checks.LAND; mode++) {
            pilot.command(mode);
            checks.same("arm() in mode " + mode, pilot.arm(), FencePilot.ARMED);
            checks.same("mode()", pilot.mode(), mode);
        }
        Checks.tickAt(pilot, 0, 0, 20);
        checks.same("mode()", pilot.mode(), Checks.DISARMED);
        checks.same("arm() again", pilot.arm(), 0);
    }

    private static void commandEdges(Checks checks) {
        int[] bad = {-1, 0, 1, 6, Integer.MIN_VALUE, Integer.MAX_VALUE};
        FencePilot grounded = new FencePilot();
        FencePilot flying = Checks.holding();
        for (int mode : bad) {
            checks.same("BAD before GROUNDED", grounded.command(mode), FencePilot.BAD);
            checks.same("command(" + mode + ")", flying.command(mode), FencePilot.BAD);
        }
        checks.same("mode()", flying.mode(), Checks.HOLD);
    }

    private static void grounded(Checks checks) {
        FencePilot pilot = Checks.fenced();
        Checks.tickAt(pilot, 0, 0, 0);
        for (int mode = Checks.MISSION; mode <= Checks.LAND; mode++) {
            checks.same("command(" + mode + ")", pilot.command(mode), FencePilot.GROUNDED);
        }
        checks.same("mode()", pilot.mode(), Checks.DISARMED);
    }

    private static void takeoffRefusesMission(Checks checks) {
        FencePilot pilot = Checks.armed();
        checks.same("REFUSED before EMPTY", pilot.command(Checks.MISSION), FencePilot.REFUSED);
        Checks.load(pilot, 0, 0, 2000);
        checks.same("with a mission", pilot.command(Checks.MISSION), FencePilot.REFUSED);
        checks.same("mode()", pilot.mode(), Checks.TAKEOFF);
        checks.same("command(3)", pilot.command(Checks.HOLD), 0);
        checks.same("command(2) from HOLD", pilot.command(Checks.MISSION), 0);
        checks.same("mode()", pilot.mode(), Checks.MISSION);
    }

    private static void emptyMission(Checks checks) {
        FencePilot pilot = Checks.holding();
        checks.same("command(2)", pilot.command(Checks.MISSION), FencePilot.EMPTY);
        pilot.upload(2);
        pilot.item(0, 0, 0, 2000);
        checks.same("command(2) during the upload", pilot.command(Checks.MISSION), FencePilot.EMPTY);
        pilot.item(1, 0, 0, 2000);
        checks.same("command(2) with a mission", pilot.command(Checks.MISSION), 0);
    }

    private static void everyModeFromEveryMode(Checks checks) {
        for (int from = Checks.TAKEOFF; from <= Checks.LAND; from++) {
            for (int to = Checks.MISSION; to <= Checks.LAND; to++) {
                FencePilot pilot = Checks.armed();
                Checks.load(pilot, 0, 0, 2000);
                if (from != Checks.TAKEOFF) {
                    pilot.command(Checks.HOLD);
                    pilot.command(from);
                }
                boolean refused = from == Checks.TAKEOFF && to == Checks.MISSION;
                checks.same(from + " to " + to, pilot.command(to), refused ? FencePilot.REFUSED : 0);
                checks.same("mode()", pilot.mode(), refused ? from : to);
            }
        }
    }

    private static void forcedLandRefuses(Checks checks) {
        FencePilot pilot = Checks.holding();
        checks.same("tick(9)", Checks.tickAt(pilot, 0, 0, 1000, 9), Checks.LAND);
        for (int mode = Checks.MISSION; mode <= Checks.LAND; mode++) {
            checks.same("command(" + mode + ")", pilot.command(mode), FencePilot.REFUSED);
        }
        checks.same("BAD before REFUSED", pilot.command(6), FencePilot.BAD);
        Checks.tickAt(pilot, 0, 0, 1000, 100);
        checks.same("still forced", pilot.command(Checks.HOLD), FencePilot.REFUSED);
    }

    private static void ownLandIsNotForced(Checks checks) {
        FencePilot pilot = Checks.holding();
        pilot.command(Checks.LAND);
        Checks.tickAt(pilot, 0, 0, 1000, 10);
        checks.same("out of LAND", pilot.command(Checks.HOLD), 0);
        pilot.command(Checks.RETURN);
        checks.same("home", Checks.tickAt(pilot, 0, 0, 1000, 90), Checks.LAND);
        checks.same("out of LAND at home", pilot.command(Checks.HOLD), 0);
    }

    private static void landIsForcedLater(Checks checks) {
        FencePilot pilot = Checks.holding();
        pilot.command(Checks.LAND);
        int before = pilot.change(0);
        Checks.tickAt(pilot, 0, 0, 1000, 9);
        checks.same("no change is written down", pilot.change(0), before);
        checks.same("out of LAND", pilot.command(Checks.HOLD), FencePilot.REFUSED);
    }

    private static void forceEndsOnTheGround(Checks checks) {
        FencePilot pilot = Checks.holding();
        checks.same("forced and landed", Checks.tickAt(pilot, 0, 0, 20, 9), Checks.DISARMED);
        checks.same("arm()", pilot.arm(), 0);
        checks.same("command(5)", pilot.command(Checks.LAND), 0);
        checks.same("command(3)", pilot.command(Checks.HOLD), 0);
    }
}
