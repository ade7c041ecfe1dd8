/** Promises 10 arm, 11 command and 13 mode, with what the terms say of a LAND that is forced. */
public final class CommandTest {
    public static void main(String[] args) {
        Checks checks = new Checks();
        armTakesOff(checks);
        armOnceOnly(checks);
        armNeedsAFence(checks);
        armNeedsAPlace(checks);
        setsTheMode(checks);
        commandReach(checks);
        grounded(checks);
        refusedWhenForced(checks);
        refusedInTakeoff(checks);
        emptyMission(checks);
        firstRefusal(checks);
        noLongerForced(checks);
        onlyFailsafesForce(checks);
        modeAnswers(checks);
        checks.finish();
    }

    private static void armTakesOff(Checks checks) {
        checks.about("From DISARMED to TAKEOFF; answers 0.");
        FencePilot pilot = Checks.fenced();
        Checks.tickAt(pilot, 0, 0, 0);
        checks.same("mode() before", pilot.mode(), Checks.DISARMED);
        checks.same("arm()", pilot.arm(), 0);
        checks.same("mode() after", pilot.mode(), Checks.TAKEOFF);
        pilot.command(Checks.LAND);
        Checks.tickAt(pilot, 0, 0, 20);
        checks.same("arm() after the landing", pilot.arm(), 0);
        checks.same("mode()", pilot.mode(), Checks.TAKEOFF);
    }

    private static void armOnceOnly(Checks checks) {
        checks.about("ARMED when the mode is not DISARMED");
        for (int mode = Checks.TAKEOFF; mode <= Checks.LAND; mode++) {
            FencePilot pilot = Checks.flyingIn(mode);
            checks.same("arm() in mode " + mode, pilot.arm(), FencePilot.ARMED);
            pilot.tick(90);
            checks.same("ARMED before NOPLACE", pilot.arm(), FencePilot.ARMED);
            checks.same("mode()", pilot.mode(), mode);
        }
    }

    private static void armNeedsAFence(Checks checks) {
        checks.about("NOFENCE when there is no fence");
        FencePilot pilot = new FencePilot();
        checks.same("NOFENCE before NOPLACE", pilot.arm(), FencePilot.NOFENCE);
        Checks.tickAt(pilot, 0, 0, 0);
        checks.same("with a place", pilot.arm(), FencePilot.NOFENCE);
        Checks.square(pilot, 5000);
        checks.same("with corners", pilot.arm(), FencePilot.NOFENCE);
        pilot.fence(1499);
        checks.same("with a refused fence", pilot.arm(), FencePilot.NOFENCE);
        pilot.fence(1500);
        checks.same("with a fence", pilot.arm(), 0);
    }

    private static void armNeedsAPlace(Checks checks) {
        checks.about("NOPLACE when lost is more than 0 or the position is not safe.");
        FencePilot pilot = Checks.fenced();
        checks.same("never voted", pilot.arm(), FencePilot.NOPLACE);
        int[][] unsafe = {{4801, 0}, {-4801, 0}, {0, 4801}, {0, -4801}, {20000, 20000}};
        for (int[] at : unsafe) {
            Checks.tickAt(pilot, at[0], at[1], 0);
            checks.same("at " + at[0] + ", " + at[1], pilot.arm(), FencePilot.NOPLACE);
        }
        Checks.tickAt(pilot, 4800, -4800, 0);
        pilot.tick(90);
        checks.same("lost for one tick", pilot.arm(), FencePilot.NOPLACE);
        checks.same("mode()", pilot.mode(), Checks.DISARMED);
        Checks.tickAt(pilot, 4800, -4800, 0);
        checks.same("just safe", pilot.arm(), 0);
        FencePilot high = Checks.fenced();
        Checks.tickAt(high, 0, 0, 20000);
        checks.same("the height does not count", high.arm(), 0);
    }

    private static void setsTheMode(Checks checks) {
        checks.about("Sets the mode; answers 0 (also when it is the mode that is).");
        for (int from = Checks.TAKEOFF; from <= Checks.LAND; from++) {
            for (int to = Checks.MISSION; to <= Checks.LAND; to++) {
                FencePilot pilot = Checks.flyingIn(from);
                boolean refused = from == Checks.TAKEOFF && to == Checks.MISSION;
                checks.same(from + " to " + to, pilot.command(to), refused ? FencePilot.REFUSED : 0);
                checks.same("mode()", pilot.mode(), refused ? from : to);
            }
        }
    }

    private static void commandReach(Checks checks) {
        checks.about("BAD when mode is not 2 to 5");
        for (int mode = Checks.TAKEOFF; mode <= Checks.LAND; mode++) {
            FencePilot pilot = Checks.flyingIn(mode);
            int[] beyond = {1, 6, 0, -1, 7};
            for (int wish : beyond) {
                checks.same("command(" + wish + ")", pilot.command(wish), FencePilot.BAD);
            }
            for (int wish : Checks.FAR) {
                checks.same("command(" + wish + ")", pilot.command(wish), FencePilot.BAD);
            }
            checks.same("mode()", pilot.mode(), mode);
        }
        FencePilot holding = Checks.flyingIn(Checks.HOLD);
        checks.same("command(2)", holding.command(2), 0);
        checks.same("command(5)", holding.command(5), 0);
    }

    private static void grounded(Checks checks) {
        checks.about("GROUNDED when the mode is DISARMED");
        FencePilot pilot = Checks.fenced();
        Checks.tickAt(pilot, 0, 0, 0);
        for (int mode = Checks.MISSION; mode <= Checks.LAND; mode++) {
            checks.same("command(" + mode + ")", pilot.command(mode), FencePilot.GROUNDED);
            checks.same("mode()", pilot.mode(), Checks.DISARMED);
        }
        pilot.arm();
        checks.same("command(3) when armed", pilot.command(Checks.HOLD), 0);
        pilot.command(Checks.LAND);
        Checks.tickAt(pilot, 0, 0, 20);
        checks.same("command(3) when landed", pilot.command(Checks.HOLD), FencePilot.GROUNDED);
    }

    private static void refusedWhenForced(Checks checks) {
        checks.about("REFUSED when LAND is forced");
        FencePilot flat = Checks.flyingIn(Checks.HOLD);
        checks.same("tick(9)", Checks.tickAt(flat, 500, 0, 1000, 9), Checks.LAND);
        FencePilot lost = Checks.flyingIn(Checks.HOLD);
        Checks.ticks(lost, 5);
        FencePilot later = Checks.flyingIn(Checks.LAND);
        Checks.tickAt(later, 500, 0, 1000, 9);
        FencePilot[] forced = {flat, lost, later};
        for (FencePilot pilot : forced) {
            for (int mode = Checks.MISSION; mode <= Checks.LAND; mode++) {
                checks.same("command(" + mode + ")", pilot.command(mode), FencePilot.REFUSED);
            }
            Checks.tickAt(pilot, 500, 0, 1000, 100);
            checks.same("still forced", pilot.command(Checks.HOLD), FencePilot.REFUSED);
            checks.same("mode()", pilot.mode(), Checks.LAND);
        }
        FencePilot free = Checks.flyingIn(Checks.LAND);
        Checks.tickAt(free, 500, 0, 1000, 10);
        Checks.ticks(free, 4);
        checks.same("a LAND that is not forced", free.command(Checks.HOLD), 0);
    }

    private static void refusedInTakeoff(Checks checks) {
        checks.about("or the mode is TAKEOFF and MISSION is wanted");
        FencePilot pilot = Checks.flyingIn(Checks.TAKEOFF);
        checks.same("command(2)", pilot.command(Checks.MISSION), FencePilot.REFUSED);
        checks.same("mode()", pilot.mode(), Checks.TAKEOFF);
        checks.same("command(3)", pilot.command(Checks.HOLD), 0);
        checks.same("command(2) from HOLD", pilot.command(Checks.MISSION), 0);
        checks.same("mode()", pilot.mode(), Checks.MISSION);
        checks.same("command(4) in TAKEOFF", Checks.flyingIn(Checks.TAKEOFF).command(Checks.RETURN), 0);
        checks.same("command(5) in TAKEOFF", Checks.flyingIn(Checks.TAKEOFF).command(Checks.LAND), 0);
    }

    private static void emptyMission(Checks checks) {
        checks.about("EMPTY when MISSION is wanted and the mission has no items.");
        FencePilot pilot = Checks.holding();
        checks.same("command(2)", pilot.command(Checks.MISSION), FencePilot.EMPTY);
        pilot.upload(2);
        pilot.item(0, 0, 0, 2000);
        checks.same("command(2) during the upload", pilot.command(Checks.MISSION), FencePilot.EMPTY);
        for (int mode = Checks.HOLD; mode <= Checks.LAND; mode++) {
            checks.same("command(" + mode + ") needs none", pilot.command(mode), 0);
        }
        pilot.item(1, 0, 0, 2000);
        checks.same("command(2) with two", pilot.command(Checks.MISSION), 0);
        FencePilot one = Checks.holding();
        Checks.load(one, 0, 0, 2000);
        checks.same("command(2) with one", one.command(Checks.MISSION), 0);
    }

    private static void firstRefusal(Checks checks) {
        checks.about("of several refusals the one named first is answered");
        FencePilot ground = new FencePilot();
        checks.same("BAD before GROUNDED", ground.command(6), FencePilot.BAD);
        checks.same("GROUNDED before EMPTY", ground.command(Checks.MISSION), FencePilot.GROUNDED);
        FencePilot takeoff = Checks.armed();
        checks.same("BAD before REFUSED", takeoff.command(1), FencePilot.BAD);
        checks.same("REFUSED before EMPTY", takeoff.command(Checks.MISSION), FencePilot.REFUSED);
        FencePilot forced = Checks.holding();
        Checks.tickAt(forced, 0, 0, 1000, 0);
        checks.same("BAD before REFUSED when forced", forced.command(6), FencePilot.BAD);
        checks.same("REFUSED before EMPTY when forced", forced.command(Checks.MISSION), FencePilot.REFUSED);
    }

    private static void noLongerForced(Checks checks) {
        checks.about("Whenever the mode becomes another one than LAND, LAND is not forced any more.");
        FencePilot pilot = Checks.holding();
        Checks.tickAt(pilot, 0, 0, 21, 9);
        checks.same("forced", pilot.command(Checks.HOLD), FencePilot.REFUSED);
        checks.same("landed", Checks.tickAt(pilot, 0, 0, 20, 9), Checks.DISARMED);
        checks.same("arm()", pilot.arm(), 0);
        checks.same("command(5)", pilot.command(Checks.LAND), 0);
        checks.same("command(3)", pilot.command(Checks.HOLD), 0);
        FencePilot atOnce = Checks.holding();
        checks.same("forced and landed in one tick", Checks.tickAt(atOnce, 0, 0, 20, 9), Checks.DISARMED);
        atOnce.arm();
        atOnce.command(Checks.LAND);
        checks.same("command(4)", atOnce.command(Checks.RETURN), 0);
    }

    private static void onlyFailsafesForce(Checks checks) {
        checks.about("LAND may be FORCED.");
        FencePilot commanded = Checks.flyingIn(Checks.LAND);
        checks.same("commanded", commanded.command(Checks.HOLD), 0);
        FencePilot home = Checks.flyingIn(Checks.RETURN);
        checks.same("home", Checks.tickAt(home, 0, 0, 1000), Checks.LAND);
        checks.same("by coming home", home.command(Checks.HOLD), 0);
        FencePilot low = Checks.flyingIn(Checks.HOLD);
        checks.same("low at home", Checks.tickAt(low, 0, 0, 1000, 24), Checks.LAND);
        checks.same("by coming home with a low battery", low.command(Checks.HOLD), 0);
        FencePilot flat = Checks.flyingIn(Checks.RETURN);
        checks.same("flat at home", Checks.tickAt(flat, 0, 0, 1000, 9), Checks.LAND);
        checks.same("by a flat battery", flat.command(Checks.HOLD), FencePilot.REFUSED);
    }

    private static void modeAnswers(Checks checks) {
        checks.about("DISARMED 0 (at first), TAKEOFF 1, MISSION 2, HOLD 3, RETURN 4, LAND 5");
        checks.same("at first", new FencePilot().mode(), 0);
        for (int mode = 1; mode <= 5; mode++) {
            checks.same("flying", Checks.flyingIn(mode).mode(), mode);
        }
    }
}
