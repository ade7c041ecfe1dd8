/** Promises 5 upload, 6 item, 7 wanted and 17 waypoint, with step 1 of a tick. */
public final class UploadTest {
    public static void main(String[] args) {
        Checks checks = new Checks();
        begun(checks);
        inThePlaceOfAnother(checks);
        agesFromZero(checks);
        sizes(checks);
        noUpload(checks);
        itemReach(checks);
        firstRefusal(checks);
        otherNumber(checks);
        keptItemsRefresh(checks);
        nextIsWanted(checks);
        lastOne(checks);
        becomesTheMission(checks);
        waypointBackToZero(checks);
        wantedWithoutUpload(checks);
        emptyWaypoint(checks);
        noneToEight(checks);
        ageOfTen(checks);
        forgotten(checks);
        checks.finish();
    }

    private static FencePilot uploading(int n) {
        FencePilot pilot = new FencePilot();
        pilot.upload(n);
        return pilot;
    }

    /** That an upload still runs after 29 ticks more, and no longer after 30. */
    private static void lastsThirtyTicks(Checks checks, String when, FencePilot pilot, int wanted) {
        Checks.ticks(pilot, 29);
        checks.same(when + ", after 29 ticks", pilot.wanted(), wanted);
        pilot.tick(90);
        checks.same(when + ", after 30 ticks", pilot.wanted(), FencePilot.NOUPLOAD);
    }

    private static void begun(Checks checks) {
        checks.about("Begins an upload of n items");
        for (int n = 1; n <= 8; n++) {
            FencePilot pilot = new FencePilot();
            checks.same("upload(" + n + ")", pilot.upload(n), 0);
            for (int k = 0; k < n; k++) {
                checks.same("wanted()", pilot.wanted(), k);
                checks.same("item " + k, pilot.item(k, k, k, 500), k + 1 < n ? k + 1 : FencePilot.DONE);
            }
        }
        FencePilot flying = Checks.holding();
        checks.same("upload(1) in the air", flying.upload(1), 0);
        checks.same("wanted() in the air", flying.wanted(), 0);
    }

    private static void inThePlaceOfAnother(Checks checks) {
        checks.about("in the place of one that may be under way");
        FencePilot pilot = uploading(3);
        pilot.item(0, 9000, 9000, 500);
        pilot.item(1, 9000, 9000, 500);
        checks.same("upload(2)", pilot.upload(2), 0);
        checks.same("item 2 of the one before", pilot.item(2, 0, 0, 500), 0);
        checks.same("item 0", pilot.item(0, 1000, 0, 1000), 1);
        checks.same("item 1", pilot.item(1, 2000, 0, 1000), FencePilot.DONE);
        checks.same("wanted()", pilot.wanted(), FencePilot.NOUPLOAD);
        FencePilot larger = uploading(1);
        checks.same("upload(2) after upload(1)", larger.upload(2), 0);
        checks.same("item 0 is not the last", larger.item(0, 0, 0, 500), 1);
    }

    private static void agesFromZero(Checks checks) {
        checks.about("age and repeats are 0, item 0 is wanted");
        for (int before = 0; before <= 30; before++) {
            FencePilot pilot = uploading(2);
            pilot.item(0, 0, 0, 500);
            Checks.ticks(pilot, before);
            pilot.upload(2);
            checks.same("wanted()", pilot.wanted(), 0);
            lastsThirtyTicks(checks, "begun anew after " + before, pilot, 0);
        }
        FencePilot late = new FencePilot();
        Checks.ticks(late, 25);
        late.upload(1);
        lastsThirtyTicks(checks, "ticks before it do not count", late, 0);
    }

    private static void sizes(Checks checks) {
        checks.about("BAD when n is not 1 to 8.");
        FencePilot pilot = new FencePilot();
        int[] beyond = {0, 9, -1, -8, 10, 100};
        for (int n : beyond) {
            checks.same("upload(" + n + ")", pilot.upload(n), FencePilot.BAD);
            checks.same("wanted()", pilot.wanted(), FencePilot.NOUPLOAD);
        }
        for (int n : Checks.FAR) {
            checks.same("upload(" + n + ")", pilot.upload(n), FencePilot.BAD);
        }
        checks.same("upload(1)", pilot.upload(1), 0);
        checks.same("upload(8)", pilot.upload(8), 0);
        pilot.item(0, 0, 0, 500);
        checks.same("upload(9) under way", pilot.upload(9), FencePilot.BAD);
        checks.same("upload(0) under way", pilot.upload(0), FencePilot.BAD);
        checks.same("wanted() after it", pilot.wanted(), 1);
    }

    private static void noUpload(Checks checks) {
        checks.about("NOUPLOAD when none is under way");
        FencePilot pilot = new FencePilot();
        checks.same("never begun", pilot.item(0, 0, 0, 500), FencePilot.NOUPLOAD);
        pilot.upload(9);
        checks.same("refused", pilot.item(0, 0, 0, 500), FencePilot.NOUPLOAD);
        pilot.upload(1);
        checks.same("under way", pilot.item(0, 0, 0, 500), FencePilot.DONE);
        checks.same("complete", pilot.item(0, 0, 0, 500), FencePilot.NOUPLOAD);
        checks.same("the next one", pilot.item(1, 0, 0, 500), FencePilot.NOUPLOAD);
        pilot.upload(2);
        Checks.ticks(pilot, 29);
        checks.same("nearly given up", pilot.item(1, 0, 0, 500), 0);
        pilot.tick(90);
        checks.same("given up", pilot.item(0, 0, 0, 500), FencePilot.NOUPLOAD);
    }

    private static void itemReach(Checks checks) {
        checks.about("BAD when x or y is not from -10000 to 10000 or z is not from 500 to 10000.");
        int bad = FencePilot.BAD;
        FencePilot pilot = uploading(8);
        checks.same("x 10001", pilot.item(0, 10001, 0, 500), bad);
        checks.same("x -10001", pilot.item(0, -10001, 0, 500), bad);
        checks.same("y 10001", pilot.item(0, 0, 10001, 500), bad);
        checks.same("y -10001", pilot.item(0, 0, -10001, 500), bad);
        checks.same("z 499", pilot.item(0, 0, 0, 499), bad);
        checks.same("z 10001", pilot.item(0, 0, 0, 10001), bad);
        checks.same("z 0", pilot.item(0, 0, 0, 0), bad);
        checks.same("z -500", pilot.item(0, 0, 0, -500), bad);
        for (int at : Checks.FAR) {
            checks.same("x " + at, pilot.item(0, at, 0, 500), bad);
            checks.same("y " + at, pilot.item(0, 0, at, 500), bad);
            checks.same("z " + at, pilot.item(0, 0, 0, at), bad);
        }
        checks.same("x 10000", pilot.item(0, 10000, 0, 501), 1);
        checks.same("x -10000", pilot.item(1, -10000, 0, 9999), 2);
        checks.same("y 10000", pilot.item(2, 0, 10000, 1000), 3);
        checks.same("y -10000", pilot.item(3, 0, -10000, 1000), 4);
        checks.same("z 500", pilot.item(4, 0, 0, 500), 5);
        checks.same("z 10000", pilot.item(5, 0, 0, 10000), 6);
        checks.same("the most", pilot.item(6, 10000, 10000, 10000), 7);
        checks.same("the least", pilot.item(7, -10000, -10000, 500), FencePilot.DONE);
    }

    private static void firstRefusal(Checks checks) {
        checks.about("of several refusals the one named first is answered");
        FencePilot pilot = new FencePilot();
        checks.same("NOUPLOAD before BAD", pilot.item(0, 10001, 0, 0), FencePilot.NOUPLOAD);
        checks.same("NOUPLOAD before the number", pilot.item(5, 0, 0, 500), FencePilot.NOUPLOAD);
        pilot.upload(2);
        checks.same("BAD before the number", pilot.item(1, 0, 0, 499), FencePilot.BAD);
        checks.same("BAD before the number", pilot.item(9, 0, -10001, 500), FencePilot.BAD);
    }

    private static void otherNumber(Checks checks) {
        checks.about("when k is not the number of the item wanted, that number is answered, and nothing changes.");
        FencePilot pilot = uploading(8);
        for (int k = 0; k < 8; k++) {
            for (int other = -1; other <= 9; other++) {
                if (other != k) {
                    checks.same("item " + other, pilot.item(other, 1, 1, 600), k);
                }
            }
            for (int other : Checks.FAR) {
                checks.same("item " + other, pilot.item(other, 1, 1, 600), k);
            }
            checks.same("wanted()", pilot.wanted(), k);
            pilot.item(k, 0, 0, 500);
        }
        FencePilot aged = uploading(2);
        Checks.ticks(aged, 29);
        checks.same("item 1", aged.item(1, 0, 0, 500), 0);
        checks.same("wanted() after 29 ticks", aged.wanted(), 0);
        aged.tick(90);
        checks.same("it does not grow younger", aged.wanted(), FencePilot.NOUPLOAD);
        FencePilot flying = Checks.armed();
        flying.upload(1);
        flying.item(1, -4000, -4000, 1000);
        flying.item(0, 4000, 4000, 1000);
        Checks.tickAt(flying, 0, 0, 1000);
        checks.vector("it is not kept", flying, 200, 200, 0);
    }

    private static void keptItemsRefresh(Checks checks) {
        checks.about("Else the item is kept, and age and repeats become 0");
        for (int before = 0; before <= 29; before++) {
            FencePilot pilot = uploading(3);
            Checks.ticks(pilot, before);
            checks.same("item 0", pilot.item(0, 0, 0, 500), 1);
            lastsThirtyTicks(checks, "item after " + before, pilot, 1);
        }
        FencePilot refused = uploading(2);
        Checks.ticks(refused, 29);
        checks.same("BAD", refused.item(0, 0, 0, 499), FencePilot.BAD);
        checks.same("wanted() after 29 ticks", refused.wanted(), 0);
        refused.tick(90);
        checks.same("a refused one does not refresh", refused.wanted(), FencePilot.NOUPLOAD);
    }

    private static void nextIsWanted(Checks checks) {
        checks.about("if it is not the last one, the next one is wanted, and its number is answered.");
        for (int n = 2; n <= 8; n++) {
            FencePilot pilot = uploading(n);
            for (int k = 0; k + 1 < n; k++) {
                checks.same("item " + k + " of " + n, pilot.item(k, 0, 0, 500), k + 1);
                checks.same("wanted()", pilot.wanted(), k + 1);
                checks.same("no mission yet", pilot.waypoint(), FencePilot.EMPTY);
            }
        }
    }

    private static void lastOne(Checks checks) {
        checks.about("no upload is under way any more");
        for (int n = 1; n <= 8; n++) {
            FencePilot pilot = uploading(n);
            for (int k = 0; k + 1 < n; k++) {
                pilot.item(k, 0, 0, 500);
            }
            checks.same("wanted() before the last", pilot.wanted(), n - 1);
            checks.same("the last of " + n, pilot.item(n - 1, 0, 0, 500), FencePilot.DONE);
            checks.same("wanted() after the last", pilot.wanted(), FencePilot.NOUPLOAD);
            checks.same("waypoint()", pilot.waypoint(), 0);
            Checks.ticks(pilot, 40);
            checks.same("the mission stays", pilot.waypoint(), 0);
        }
    }

    private static void becomesTheMission(Checks checks) {
        checks.about("the mission becomes the items of the upload");
        FencePilot pilot = Checks.onMission(1000, 0, 1000, 2000, 0, 1000, 3000, 0, 1000);
        Checks.tickAt(pilot, 1000, 0, 1000);
        pilot.upload(2);
        pilot.item(0, -1000, 0, 1000);
        Checks.tickAt(pilot, 1500, 0, 1000);
        checks.same("waypoint() before the last item", pilot.waypoint(), 1);
        checks.vector("to the old item", pilot, 200, 0, 0);
        checks.same("the last item", pilot.item(1, 0, -1000, 1000), FencePilot.DONE);
        checks.same("mode()", pilot.mode(), Checks.MISSION);
        Checks.tickAt(pilot, 1500, 0, 1000);
        checks.vector("to the new item", pilot, -200, 0, 0);
        Checks.tickAt(pilot, -1000, 0, 1000);
        checks.same("waypoint() of the new one", pilot.waypoint(), 1);
        checks.vector("to its second", pilot, 200, -200, 0);
        checks.same("two items now, not three", Checks.tickAt(pilot, 0, -1000, 1000), Checks.RETURN);
    }

    private static void waypointBackToZero(Checks checks) {
        checks.about("the waypoint 0, and DONE is answered.");
        FencePilot pilot = Checks.onMission(1000, 0, 1000, 2000, 0, 1000, 3000, 0, 1000);
        Checks.tickAt(pilot, 1000, 0, 1000);
        Checks.tickAt(pilot, 2000, 0, 1000);
        checks.same("waypoint() before", pilot.waypoint(), 2);
        pilot.upload(1);
        checks.same("waypoint() during", pilot.waypoint(), 2);
        checks.same("item 0", pilot.item(0, 2000, 0, 1000), FencePilot.DONE);
        checks.same("waypoint() after", pilot.waypoint(), 0);
    }

    private static void wantedWithoutUpload(Checks checks) {
        checks.about("The number of the item wanted; NOUPLOAD when no upload is under way.");
        FencePilot pilot = new FencePilot();
        checks.same("never begun", pilot.wanted(), FencePilot.NOUPLOAD);
        pilot.upload(2);
        checks.same("begun", pilot.wanted(), 0);
        pilot.item(0, 0, 0, 500);
        checks.same("one kept", pilot.wanted(), 1);
        pilot.item(1, 0, 0, 500);
        checks.same("complete", pilot.wanted(), FencePilot.NOUPLOAD);
    }

    private static void emptyWaypoint(Checks checks) {
        checks.about("The waypoint; EMPTY when the mission has no items.");
        FencePilot pilot = Checks.armed();
        checks.same("no mission", pilot.waypoint(), FencePilot.EMPTY);
        pilot.upload(8);
        for (int k = 0; k < 7; k++) {
            pilot.item(k, 1000 + 300 * k, 0, 1000);
            checks.same("not complete", pilot.waypoint(), FencePilot.EMPTY);
        }
        pilot.item(7, 3100, 0, 1000);
        checks.same("complete", pilot.waypoint(), 0);
        Checks.tickAt(pilot, 0, 0, 1000);
        for (int k = 0; k < 7; k++) {
            Checks.tickAt(pilot, 1000 + 300 * k, 0, 1000);
            checks.same("after item " + k, pilot.waypoint(), k + 1);
        }
        checks.same("after the eighth", Checks.tickAt(pilot, 3100, 0, 1000), Checks.RETURN);
        checks.same("around to the first", pilot.waypoint(), 0);
    }

    private static void noneToEight(Checks checks) {
        checks.about("THE MISSION has 0 to 8 items");
        for (int n = 0; n <= 9; n++) {
            FencePilot pilot = Checks.armed();
            checks.same("upload(" + n + ")", pilot.upload(n), n == 0 || n == 9 ? FencePilot.BAD : 0);
            for (int k = 0; k < n; k++) {
                pilot.item(k, 4000, 0, 1000);
            }
            boolean empty = n == 0 || n == 9;
            checks.same("waypoint()", pilot.waypoint(), empty ? FencePilot.EMPTY : 0);
            checks.same("1000 high", Checks.tickAt(pilot, 0, 0, 1000), empty ? Checks.HOLD : Checks.MISSION);
        }
    }

    private static void ageOfTen(Checks checks) {
        checks.about("If an upload is under way, its age grows by 1; "
            + "when it is 10 then, the age becomes 0 and the count of repeats grows by 1; "
            + "when that is 3 then, no upload is under way any more");
        FencePilot pilot = uploading(1);
        for (int tick = 1; tick <= 29; tick++) {
            pilot.tick(90);
            checks.same("wanted() after " + tick, pilot.wanted(), 0);
        }
        checks.same("a refused tick", pilot.tick(101), FencePilot.BAD);
        checks.same("does not age it", pilot.wanted(), 0);
        pilot.tick(90);
        checks.same("wanted() after 30", pilot.wanted(), FencePilot.NOUPLOAD);
        Checks.ticks(pilot, 5);
        pilot.upload(1);
        lastsThirtyTicks(checks, "the next one", pilot, 0);
        FencePilot flying = Checks.holding();
        flying.upload(1);
        lastsThirtyTicks(checks, "in the air", flying, 0);
    }

    private static void forgotten(Checks checks) {
        checks.about("(what it brought is forgotten)");
        FencePilot pilot = uploading(2);
        pilot.item(0, 0, 0, 500);
        Checks.ticks(pilot, 30);
        checks.same("no mission of it", pilot.waypoint(), FencePilot.EMPTY);
        pilot.upload(2);
        checks.same("wanted() of the next", pilot.wanted(), 0);
        checks.same("item 1 of the next", pilot.item(1, 0, 0, 500), 0);
        FencePilot older = Checks.armed();
        Checks.load(older, 4000, 0, 1000);
        older.beat();
        older.upload(2);
        older.item(0, -4000, 0, 1000);
        for (int i = 0; i < 30; i++) {
            older.beat();
            Checks.tickAt(older, 0, 0, 900);
        }
        checks.same("wanted()", older.wanted(), FencePilot.NOUPLOAD);
        checks.same("the older mission stays", Checks.tickAt(older, 0, 0, 1000), Checks.MISSION);
        checks.vector("and is flown", older, 200, 0, 0);
    }
}
