/** Promise 1, and how long an object is used. */
public final class NewObjectTest {
    public static void main(String[] args) {
        Checks checks = new Checks();
        nothingGiven(checks);
        disarmed(checks);
        countsFromZero(checks);
        positionAtFirst(checks);
        apart(checks);
        manyTicks(checks);
        checks.finish();
    }

    private static void nothingGiven(Checks checks) {
        checks.about("No fence, no mission, no upload, no corner and no sample given");
        FencePilot pilot = new FencePilot();
        checks.no("safe(0, 0)", pilot.safe(0, 0));
        checks.same("arm()", pilot.arm(), FencePilot.NOFENCE);
        checks.same("waypoint()", pilot.waypoint(), FencePilot.EMPTY);
        checks.same("wanted()", pilot.wanted(), FencePilot.NOUPLOAD);
        checks.same("item(0, 0, 0, 500)", pilot.item(0, 0, 0, 500), FencePilot.NOUPLOAD);
        checks.same("fence(2000)", pilot.fence(2000), FencePilot.FEW);
        for (int i = 0; i < 8; i++) {
            checks.yes("corner " + i, pilot.corner(i, i));
        }
        for (int k = 0; k < 3; k++) {
            FencePilot one = new FencePilot();
            one.sample(k, 5, 5, 5);
            one.tick(90);
            checks.same("lost() after one sample", one.lost(), 2);
        }
    }

    private static void disarmed(Checks checks) {
        checks.about("DISARMED");
        FencePilot pilot = new FencePilot();
        checks.same("mode()", pilot.mode(), Checks.DISARMED);
        checks.same("command(3)", pilot.command(Checks.HOLD), FencePilot.GROUNDED);
        checks.same("tick(0)", pilot.tick(0), Checks.DISARMED);
        for (int k = 0; k <= 15; k++) {
            checks.same("change(" + k + ")", pilot.change(k), -1);
        }
    }

    private static void countsFromZero(Checks checks) {
        checks.about("the count of ticks and the waypoint are 0");
        FencePilot pilot = Checks.armed();
        checks.same("change(0) after one tick", pilot.change(0), 8 + Checks.TAKEOFF);
        Checks.load(pilot, 0, 0, 2000);
        checks.same("waypoint()", pilot.waypoint(), 0);
    }

    private static void positionAtFirst(Checks checks) {
        checks.about("THE POSITION is x, y, z, at first all 0");
        FencePilot pilot = new FencePilot();
        checks.place("new", pilot, 0, 0, 0);
        checks.vector("new", pilot, 0, 0, 0);
        checks.same("lost()", pilot.lost(), 1);
    }

    private static void apart(Checks checks) {
        checks.about("FencePilot()");
        FencePilot one = Checks.holding();
        FencePilot other = new FencePilot();
        checks.same("the other's mode()", other.mode(), Checks.DISARMED);
        checks.same("the other's change(0)", other.change(0), -1);
        checks.no("the other's safe(0, 0)", other.safe(0, 0));
        checks.same("the one's mode()", one.mode(), Checks.HOLD);
    }

    private static void manyTicks(Checks checks) {
        checks.about("An object is used for at most 512 calls after it has been made");
        FencePilot lost = new FencePilot();
        Checks.ticks(lost, 511);
        checks.same("lost() as the 512th call", lost.lost(), 512);
        FencePilot late = Checks.fenced();
        Checks.ticks(late, 502);
        Checks.tickAt(late, 0, 0, 0);
        checks.same("arm() as the 511th call", late.arm(), 0);
        checks.same("change(0) as the 512th", late.change(0), 8 * 503 + Checks.TAKEOFF);
        FencePilot turning = Checks.armed();
        for (int i = 0; i < 502; i++) {
            turning.command(i % 2 == 0 ? Checks.HOLD : Checks.RETURN);
        }
        checks.same("change(15) as the 512th", turning.change(15), 8 + Checks.HOLD);
    }
}
