/** Promise 19. */
public final class ChangeTest {
    public static void main(String[] args) {
        Checks checks = new Checks();
        kEdges(checks);
        wholeFlight(checks);
        sameModeIsNoChange(checks);
        refusedIsNoChange(checks);
        moreThanSixteen(checks);
        checks.finish();
    }

    private static void kEdges(Checks checks) {
        FencePilot pilot = Checks.holding();
        checks.same("change(0)", pilot.change(0), 8 * 2 + Checks.HOLD);
        checks.same("change(1)", pilot.change(1), 8 + Checks.TAKEOFF);
        int[] none = {2, 15, 16, -1, Integer.MIN_VALUE, Integer.MAX_VALUE};
        for (int k : none) {
            checks.same("change(" + k + ")", pilot.change(k), -1);
        }
    }

    private static void wholeFlight(Checks checks) {
        FencePilot pilot = Checks.onMission(1000, 0, 1000);
        Checks.tickAt(pilot, 1000, 0, 1000);
        Checks.tickAt(pilot, 0, 0, 1000);
        Checks.tickAt(pilot, 0, 0, 0);
        int[] due = {8 * 5 + Checks.DISARMED, 8 * 4 + Checks.LAND, 8 * 3 + Checks.RETURN,
            8 * 2 + Checks.MISSION, 8 + Checks.TAKEOFF, -1};
        for (int k = 0; k < due.length; k++) {
            checks.same("change(" + k + ")", pilot.change(k), due[k]);
        }
    }

    private static void sameModeIsNoChange(Checks checks) {
        FencePilot pilot = Checks.holding();
        checks.same("command(3) in HOLD", pilot.command(Checks.HOLD), 0);
        checks.same("change(1)", pilot.change(1), 8 + Checks.TAKEOFF);
        checks.same("change(2)", pilot.change(2), -1);
        pilot.command(Checks.LAND);
        Checks.ticks(pilot, 10);
        checks.same("change(0)", pilot.change(0), 8 * 2 + Checks.LAND);
    }

    private static void refusedIsNoChange(Checks checks) {
        FencePilot pilot = Checks.holding();
        pilot.command(Checks.MISSION);
        pilot.command(7);
        pilot.arm();
        pilot.tick(-1);
        checks.same("change(0)", pilot.change(0), 8 * 2 + Checks.HOLD);
        checks.same("change(2)", pilot.change(2), -1);
    }

    private static void moreThanSixteen(Checks checks) {
        FencePilot pilot = Checks.holding();
        for (int i = 0; i < 14; i++) {
            pilot.command(i % 2 == 0 ? Checks.RETURN : Checks.HOLD);
        }
        checks.same("the 16th of sixteen", pilot.change(15), 8 + Checks.TAKEOFF);
        pilot.command(Checks.LAND);
        checks.same("change(0)", pilot.change(0), 8 * 2 + Checks.LAND);
        checks.same("change(1)", pilot.change(1), 8 * 2 + Checks.HOLD);
        checks.same("change(2)", pilot.change(2), 8 * 2 + Checks.RETURN);
        checks.same("the 16th of seventeen", pilot.change(15), 8 * 2 + Checks.HOLD);
        checks.same("the 17th", pilot.change(16), -1);
        for (int i = 0; i < 200; i++) {
            pilot.command(i % 2 == 0 ? Checks.RETURN : Checks.HOLD);
        }
        for (int k = 0; k < 16; k++) {
            checks.same("change(" + k + ")", pilot.change(k), 8 * 2 + (k % 2 == 0 ? Checks.HOLD : Checks.RETURN));
        }
    }
}
