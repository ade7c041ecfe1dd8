/** Promise 19, with what the terms say of changes. */
public final class ChangeTest {
    public static void main(String[] args) {
        Checks checks = new Checks();
        tickCountAndMode(checks);
        notSoMany(checks);
        kReach(checks);
        moreThanSixteen(checks);
        sameMode(checks);
        refusedIsNoChange(checks);
        twiceInATick(checks);
        checks.finish();
    }

    private static void tickCountAndMode(Checks checks) {
        checks.about("the k-th counted from the latest (0): 8 times the count of ticks, plus the mode that was set");
        FencePilot pilot = Checks.onMission(1000, 0, 1000);
        Checks.tickAt(pilot, 1000, 0, 1000);
        Checks.tickAt(pilot, 0, 0, 1000);
        Checks.tickAt(pilot, 0, 0, 0);
        int[] due = {8 * 5 + Checks.DISARMED, 8 * 4 + Checks.LAND, 8 * 3 + Checks.RETURN,
            8 * 2 + Checks.MISSION, 8 + Checks.TAKEOFF, -1};
        for (int k = 0; k < due.length; k++) {
            checks.same("change(" + k + ")", pilot.change(k), due[k]);
        }
        FencePilot late = Checks.fenced();
        Checks.ticks(late, 299);
        Checks.tickAt(late, 0, 0, 0);
        late.arm();
        checks.same("after 300 ticks", late.change(0), 8 * 300 + Checks.TAKEOFF);
        late.command(Checks.LAND);
        checks.same("in the same tick", late.change(0), 8 * 300 + Checks.LAND);
        late.tick(101);
        late.command(Checks.HOLD);
        checks.same("a refused tick does not count", late.change(0), 8 * 300 + Checks.HOLD);
    }

    private static void notSoMany(Checks checks) {
        checks.about("-1 when there were not so many");
        FencePilot pilot = Checks.armed();
        checks.same("the first of one", pilot.change(0), 8 + Checks.TAKEOFF);
        checks.same("the second of one", pilot.change(1), -1);
        for (int count = 2; count <= 16; count++) {
            pilot.command(count % 2 == 0 ? Checks.HOLD : Checks.RETURN);
            checks.same("the first of " + count, pilot.change(count - 1), 8 + Checks.TAKEOFF);
            checks.same("one more than " + count, pilot.change(count), -1);
        }
    }

    private static void kReach(Checks checks) {
        checks.about("or k is not 0 to 15");
        FencePilot pilot = Checks.armed();
        for (int i = 0; i < 40; i++) {
            pilot.command(i % 2 == 0 ? Checks.HOLD : Checks.RETURN);
        }
        checks.same("change(0)", pilot.change(0), 8 + Checks.RETURN);
        checks.same("change(15)", pilot.change(15), 8 + Checks.HOLD);
        int[] beyond = {-1, 16, -16, 17, 32};
        for (int k : beyond) {
            checks.same("change(" + k + ")", pilot.change(k), -1);
        }
        for (int k : Checks.FAR) {
            checks.same("change(" + k + ")", pilot.change(k), -1);
        }
    }

    private static void moreThanSixteen(Checks checks) {
        checks.about("every change is written down, with the count of ticks at that time");
        FencePilot pilot = Checks.holding();
        for (int i = 0; i < 14; i++) {
            pilot.command(i % 2 == 0 ? Checks.RETURN : Checks.HOLD);
        }
        checks.same("the 16th of sixteen", pilot.change(15), 8 + Checks.TAKEOFF);
        checks.same("the 15th of sixteen", pilot.change(14), 8 * 2 + Checks.HOLD);
        pilot.command(Checks.LAND);
        checks.same("the 16th of seventeen", pilot.change(15), 8 * 2 + Checks.HOLD);
        int[] modes = {Checks.HOLD, Checks.RETURN, Checks.LAND};
        for (int tick = 3; tick < 60; tick++) {
            pilot.beat();
            Checks.tickAt(pilot, 500, 0, 1000);
            pilot.command(modes[tick % 3]);
            checks.same("change(0)", pilot.change(0), 8 * tick + modes[tick % 3]);
        }
        for (int k = 0; k < 16; k++) {
            checks.same("change(" + k + ")", pilot.change(k), 8 * (59 - k) + modes[(59 - k) % 3]);
        }
    }

    private static void sameMode(Checks checks) {
        checks.about("A mode is CHANGED when one is set that is another one than before");
        FencePilot pilot = Checks.holding();
        checks.same("command(3) in HOLD", pilot.command(Checks.HOLD), 0);
        checks.same("change(0)", pilot.change(0), 8 * 2 + Checks.HOLD);
        checks.same("change(1)", pilot.change(1), 8 + Checks.TAKEOFF);
        pilot.command(Checks.LAND);
        pilot.command(Checks.LAND);
        checks.same("change(0)", pilot.change(0), 8 * 2 + Checks.LAND);
        checks.same("change(1)", pilot.change(1), 8 * 2 + Checks.HOLD);
        Checks.tickAt(pilot, 0, 0, 1000, 9);
        checks.same("LAND forced while it lands", pilot.change(0), 8 * 2 + Checks.LAND);
        Checks.ticks(pilot, 10);
        checks.same("LAND forced again", pilot.change(0), 8 * 2 + Checks.LAND);
        FencePilot low = Checks.flyingIn(Checks.RETURN);
        int before = low.change(0);
        Checks.tickAt(low, 500, 0, 1000, 24);
        checks.same("a low battery in RETURN", low.change(0), before);
    }

    private static void refusedIsNoChange(Checks checks) {
        checks.about("A call that is refused changes nothing");
        FencePilot pilot = Checks.holding();
        pilot.command(Checks.MISSION);
        pilot.command(7);
        pilot.arm();
        pilot.tick(-1);
        checks.same("change(0)", pilot.change(0), 8 * 2 + Checks.HOLD);
        checks.same("change(2)", pilot.change(2), -1);
    }

    private static void twiceInATick(Checks checks) {
        checks.about("(In a tick the mode may change twice.)");
        FencePilot pilot = Checks.holding();
        checks.same("low at home", Checks.tickAt(pilot, 0, 0, 1000, 24), Checks.LAND);
        checks.same("change(0)", pilot.change(0), 8 * 3 + Checks.LAND);
        checks.same("change(1)", pilot.change(1), 8 * 3 + Checks.RETURN);
        checks.same("change(2)", pilot.change(2), 8 * 2 + Checks.HOLD);
        FencePilot flat = Checks.holding();
        checks.same("flat on the ground", Checks.tickAt(flat, 0, 0, 20, 9), Checks.DISARMED);
        checks.same("change(0)", flat.change(0), 8 * 3 + Checks.DISARMED);
        checks.same("change(1)", flat.change(1), 8 * 3 + Checks.LAND);
        FencePilot once = Checks.holding();
        checks.same("low at home but never three", Checks.tickAt(once, 0, 0, 20, 24), Checks.LAND);
        checks.same("change(0)", once.change(0), 8 * 3 + Checks.LAND);
    }
}
