/** Promises 5 upload, 6 item, 7 wanted and 17 waypoint. */
public final class UploadTest {
    public static void main(String[] args) {
        Checks checks = new Checks();
        sizes(checks);
        itemsInOrder(checks);
        itemEdges(checks);
        refusalsInOrder(checks);
        refusedItemsDoNotRefresh(checks);
        itemsRefresh(checks);
        givenUpAfterThirtyTicks(checks);
        forgottenUpload(checks);
        begunAnew(checks);
        missionStaysUntilDone(checks);
        newMissionInTheAir(checks);
        checks.finish();
    }

    private static void sizes(Checks checks) {
        int[] bad = {0, -1, 9, Integer.MIN_VALUE, Integer.MAX_VALUE};
        FencePilot pilot = new FencePilot();
        for (int n : bad) {
            checks.same("upload(" + n + ")", pilot.upload(n), FencePilot.BAD);
            checks.same("wanted()", pilot.wanted(), FencePilot.NOUPLOAD);
        }
        for (int n = 1; n <= 8; n++) {
            checks.same("upload(" + n + ")", pilot.upload(n), 0);
            checks.same("wanted()", pilot.wanted(), 0);
        }
        pilot.item(0, 0, 0, 500);
        checks.same("upload(9) under way", pilot.upload(9), FencePilot.BAD);
        checks.same("wanted() after it", pilot.wanted(), 1);
    }

    private static void itemsInOrder(Checks checks) {
        for (int n = 1; n <= 8; n++) {
            FencePilot pilot = new FencePilot();
            pilot.upload(n);
            for (int k = 0; k < n; k++) {
                checks.same("wanted()", pilot.wanted(), k);
                checks.same("waypoint()", pilot.waypoint(), FencePilot.EMPTY);
                checks.same("item " + (k + 1), pilot.item(k + 1, 0, 0, 500), k);
                checks.same("item " + (k - 1), pilot.item(k - 1, 0, 0, 500), k);
                checks.same("item " + k, pilot.item(k, k, k, 500), k + 1 == n ? FencePilot.DONE : k + 1);
            }
            checks.same("wanted() when done", pilot.wanted(), FencePilot.NOUPLOAD);
            checks.same("item when done", pilot.item(n, 0, 0, 500), FencePilot.NOUPLOAD);
            checks.same("waypoint() when done", pilot.waypoint(), 0);
        }
    }

    private static void itemEdges(Checks checks) {
        int bad = FencePilot.BAD;
        FencePilot pilot = new FencePilot();
        pilot.upload(8);
        checks.same("x 10001", pilot.item(0, 10001, 0, 500), bad);
        checks.same("x -10001", pilot.item(0, -10001, 0, 500), bad);
        checks.same("y 10001", pilot.item(0, 0, 10001, 500), bad);
        checks.same("y -10001", pilot.item(0, 0, -10001, 500), bad);
        checks.same("z 499", pilot.item(0, 0, 0, 499), bad);
        checks.same("z 10001", pilot.item(0, 0, 0, 10001), bad);
        checks.same("z least", pilot.item(0, 0, 0, Integer.MIN_VALUE), bad);
        checks.same("x most", pilot.item(0, Integer.MAX_VALUE, 0, 500), bad);
        checks.same("x 10000", pilot.item(0, 10000, 0, 500), 1);
        checks.same("x -10000", pilot.item(1, -10000, 0, 500), 2);
        checks.same("y 10000", pilot.item(2, 0, 10000, 500), 3);
        checks.same("y -10000", pilot.item(3, 0, -10000, 10000), 4);
        checks.same("k least", pilot.item(Integer.MIN_VALUE, 0, 0, 500), 4);
        checks.same("k most", pilot.item(Integer.MAX_VALUE, 0, 0, 500), 4);
    }

    private static void refusalsInOrder(Checks checks) {
        FencePilot pilot = new FencePilot();
        checks.same("NOUPLOAD before BAD", pilot.item(0, 10001, 0, 0), FencePilot.NOUPLOAD);
        pilot.upload(2);
        checks.same("BAD before the wanted number", pilot.item(1, 0, 0, 499), FencePilot.BAD);
        checks.same("wanted()", pilot.wanted(), 0);
    }

    private static void refusedItemsDoNotRefresh(Checks checks) {
        FencePilot pilot = new FencePilot();
        pilot.upload(2);
        Checks.ticks(pilot, 29);
        pilot.item(1, 0, 0, 500);
        pilot.item(0, 0, 0, 499);
        pilot.upload(0);
        pilot.tick(101);
        checks.same("wanted() after 29 ticks", pilot.wanted(), 0);
        pilot.tick(90);
        checks.same("wanted() after 30 ticks", pilot.wanted(), FencePilot.NOUPLOAD);
    }

    private static void itemsRefresh(Checks checks) {
        FencePilot pilot = new FencePilot();
        pilot.upload(3);
        Checks.ticks(pilot, 29);
        checks.same("item 0", pilot.item(0, 0, 0, 500), 1);
        Checks.ticks(pilot, 29);
        checks.same("item 1", pilot.item(1, 0, 0, 500), 2);
        Checks.ticks(pilot, 29);
        checks.same("item 2", pilot.item(2, 0, 0, 500), FencePilot.DONE);
        Checks.ticks(pilot, 40);
        checks.same("the mission stays", pilot.waypoint(), 0);
    }

    private static void givenUpAfterThirtyTicks(Checks checks) {
        FencePilot pilot = new FencePilot();
        Checks.ticks(pilot, 15);
        pilot.upload(3);
        Checks.ticks(pilot, 5);
        pilot.item(0, 0, 0, 500);
        Checks.ticks(pilot, 29);
        checks.same("wanted() after 29 ticks", pilot.wanted(), 1);
        pilot.tick(90);
        checks.same("wanted() after 30 ticks", pilot.wanted(), FencePilot.NOUPLOAD);
        checks.same("item 1", pilot.item(1, 0, 0, 500), FencePilot.NOUPLOAD);
        checks.same("waypoint()", pilot.waypoint(), FencePilot.EMPTY);
    }

    private static void forgottenUpload(Checks checks) {
        FencePilot pilot = new FencePilot();
        pilot.upload(3);
        pilot.item(0, 0, 0, 500);
        Checks.ticks(pilot, 30);
        checks.same("upload(2)", pilot.upload(2), 0);
        checks.same("wanted()", pilot.wanted(), 0);
        Checks.ticks(pilot, 29);
        checks.same("wanted() after 29 ticks", pilot.wanted(), 0);
    }

    private static void begunAnew(Checks checks) {
        FencePilot pilot = new FencePilot();
        pilot.upload(3);
        pilot.item(0, 9000, 9000, 500);
        Checks.ticks(pilot, 29);
        checks.same("upload(1) in its place", pilot.upload(1), 0);
        checks.same("wanted()", pilot.wanted(), 0);
        Checks.ticks(pilot, 29);
        checks.same("item 0", pilot.item(0, 0, 0, 500), FencePilot.DONE);
        checks.same("wanted()", pilot.wanted(), FencePilot.NOUPLOAD);
    }

    private static void missionStaysUntilDone(Checks checks) {
        FencePilot pilot = Checks.onMission(1000, 0, 1000, 2000, 0, 1000);
        Checks.tickAt(pilot, 1000, 0, 1000);
        checks.same("waypoint()", pilot.waypoint(), 1);
        pilot.upload(2);
        pilot.item(0, -1000, 0, 1000);
        checks.same("waypoint() during the upload", pilot.waypoint(), 1);
        Checks.tickAt(pilot, 1000, 0, 1000);
        checks.vector("to the old item", pilot, 200, 0, 0);
    }

    private static void newMissionInTheAir(Checks checks) {
        FencePilot pilot = Checks.onMission(1000, 0, 1000, 2000, 0, 1000, 3000, 0, 1000);
        Checks.tickAt(pilot, 1000, 0, 1000);
        Checks.tickAt(pilot, 2000, 0, 1000);
        checks.same("waypoint()", pilot.waypoint(), 2);
        checks.same("the new mission", Checks.load(pilot, -1000, 0, 1000), FencePilot.DONE);
        checks.same("waypoint() of the new one", pilot.waypoint(), 0);
        checks.same("mode()", pilot.mode(), Checks.MISSION);
        Checks.tickAt(pilot, 1000, 0, 1000);
        checks.vector("to the new item", pilot, -200, 0, 0);
        checks.same("at its only item", Checks.tickAt(pilot, -1000, 0, 1000), Checks.RETURN);
        checks.same("waypoint() after the last", pilot.waypoint(), 0);
    }
}
