/** Promise 1. */
public final class NewObjectTest {
    public static void main(String[] args) {
        Checks checks = new Checks();
        answersAtFirst(checks);
        nothingIsGivenYet(checks);
        ticksCountFromZero(checks);
        objectsAreApart(checks);
        checks.finish();
    }

    private static void answersAtFirst(Checks checks) {
        FencePilot pilot = new FencePilot();
        checks.same("mode()", pilot.mode(), Checks.DISARMED);
        checks.same("wanted()", pilot.wanted(), FencePilot.NOUPLOAD);
        checks.same("waypoint()", pilot.waypoint(), FencePilot.EMPTY);
        checks.same("lost()", pilot.lost(), 1);
        checks.no("safe(0, 0)", pilot.safe(0, 0));
        checks.same("change(0)", pilot.change(0), -1);
        checks.same("change(15)", pilot.change(15), -1);
        checks.place("new", pilot, 0, 0, 0);
        checks.vector("new", pilot, 0, 0, 0);
        checks.same("arm()", pilot.arm(), FencePilot.NOFENCE);
    }

    private static void nothingIsGivenYet(Checks checks) {
        FencePilot pilot = new FencePilot();
        checks.same("fence(2000) without a corner", pilot.fence(2000), FencePilot.FEW);
        for (int i = 0; i < 8; i++) {
            checks.yes("corner " + i, pilot.corner(i, i));
        }
        pilot.sample(0, 5, 5, 5);
        pilot.tick(90);
        checks.same("lost() after one sample", pilot.lost(), 2);
    }

    private static void ticksCountFromZero(Checks checks) {
        FencePilot pilot = Checks.armed();
        checks.same("change(0) after one tick", pilot.change(0), 8 + Checks.TAKEOFF);
        Checks.load(pilot, 0, 0, 2000);
        checks.same("waypoint()", pilot.waypoint(), 0);
    }

    private static void objectsAreApart(Checks checks) {
        FencePilot one = Checks.holding();
        FencePilot other = new FencePilot();
        checks.same("the other's mode()", other.mode(), Checks.DISARMED);
        checks.same("the other's change(0)", other.change(0), -1);
        checks.no("the other's safe(0, 0)", other.safe(0, 0));
        checks.same("the one's mode()", one.mode(), Checks.HOLD);
    }
}
