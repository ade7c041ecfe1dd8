/** Promises 9 beat, 12 tick and 14 demand, with steps 1 and 3 to 7 of a tick. */
public final class TickTest {
    public static void main(String[] args) {
        Checks checks = new Checks();
        answersTheMode(checks);
        batteryReach(checks);
        countOfTicks(checks);
        silentAtFirst(checks);
        silentGrows(checks);
        beats(checks);
        disarmedTickEnds(checks);
        flatBattery(checks);
        lostTooLong(checks);
        lowBattery(checks);
        silence(checks);
        neitherReturnNorLand(checks);
        stepsWaitWhileLost(checks);
        takeoff(checks);
        reached(checks);
        waypointGrows(checks);
        lastItem(checks);
        comingHome(checks);
        landed(checks);
        oneStepATick(checks);
        takeoffDemand(checks);
        holdDemand(checks);
        landDemand(checks);
        saturated(checks);
        missionDemand(checks);
        returnDemand(checks);
        demandsWhileLost(checks);
        demandAxes(checks);
        checks.finish();
    }

    private static void answersTheMode(Checks checks) {
        checks.about("answers the mode after it");
        FencePilot pilot = Checks.armed();
        Checks.load(pilot, 4000, 0, 1000);
        checks.same("TAKEOFF", Checks.tickAt(pilot, 0, 0, 999), Checks.TAKEOFF);
        checks.same("MISSION", Checks.tickAt(pilot, 0, 0, 1000), Checks.MISSION);
        checks.same("RETURN", Checks.tickAt(pilot, 4000, 0, 1000), Checks.RETURN);
        checks.same("LAND", Checks.tickAt(pilot, 0, 0, 1000), Checks.LAND);
        checks.same("DISARMED", Checks.tickAt(pilot, 0, 0, 0), Checks.DISARMED);
        checks.same("DISARMED still", Checks.tickAt(pilot, 0, 0, 0), Checks.DISARMED);
        checks.same("HOLD", Checks.tickAt(Checks.holding(), 0, 0, 1000), Checks.HOLD);
    }

    private static void batteryReach(Checks checks) {
        checks.about("BAD when battery is not 0 to 100.");
        FencePilot pilot = Checks.flyingIn(Checks.HOLD);
        int[] beyond = {-1, 101, -100, 200};
        for (int battery : beyond) {
            checks.same("tick(" + battery + ")", pilot.tick(battery), FencePilot.BAD);
        }
        for (int battery : Checks.FAR) {
            checks.same("tick(" + battery + ")", pilot.tick(battery), FencePilot.BAD);
        }
        checks.same("lost() after them", pilot.lost(), 0);
        checks.same("tick(100)", Checks.tickAt(pilot, 0, 0, 1000, 100), Checks.HOLD);
        checks.same("tick(0)", Checks.tickAt(pilot, 0, 0, 1000, 0), Checks.LAND);
        checks.same("tick(0) on the ground", new FencePilot().tick(0), Checks.DISARMED);
        checks.same("tick(101) on the ground", new FencePilot().tick(101), FencePilot.BAD);
    }

    private static void countOfTicks(Checks checks) {
        checks.about("The count of ticks grows by 1.");
        FencePilot pilot = Checks.holding();
        for (int i = 0; i < 40; i++) {
            pilot.tick(-1);
        }
        pilot.command(Checks.RETURN);
        checks.same("refused ticks do not count", pilot.change(0), 8 * 2 + Checks.RETURN);
        pilot.tick(90);
        pilot.command(Checks.HOLD);
        checks.same("one more", pilot.change(0), 8 * 3 + Checks.HOLD);
        FencePilot ground = Checks.fenced();
        Checks.ticks(ground, 7);
        Checks.tickAt(ground, 0, 0, 0);
        ground.arm();
        checks.same("those on the ground count", ground.change(0), 8 * 8 + Checks.TAKEOFF);
    }

    private static void silentAtFirst(Checks checks) {
        checks.about("SILENT the number of ticks since the latest beat, at first 0");
        FencePilot never = Checks.holding();
        for (int tick = 3; tick <= 19; tick++) {
            checks.same("never a beat, tick " + tick, Checks.tickAt(never, 500, 0, 1000), Checks.HOLD);
        }
        checks.same("never a beat, tick 20", Checks.tickAt(never, 500, 0, 1000), Checks.RETURN);
    }

    private static void silentGrows(Checks checks) {
        checks.about("Silent grows by 1.");
        FencePilot ground = Checks.fenced();
        Checks.ticks(ground, 18);
        Checks.tickAt(ground, 0, 0, 0);
        ground.arm();
        checks.same("19 ticks on the ground and one", Checks.tickAt(ground, 500, 0, 100), Checks.RETURN);
        FencePilot fresh = Checks.fenced();
        Checks.ticks(fresh, 17);
        Checks.armedIn(fresh);
        checks.same("18 ticks on the ground and one", Checks.tickAt(fresh, 500, 0, 100), Checks.TAKEOFF);
        FencePilot refused = Checks.flyingIn(Checks.HOLD);
        refused.beat();
        for (int i = 0; i < 30; i++) {
            refused.tick(101);
        }
        checks.same("refused ticks do not count", Checks.tickAt(refused, 500, 0, 1000), Checks.HOLD);
    }

    private static void beats(Checks checks) {
        checks.about("A sign of life over the link: silent becomes 0.");
        FencePilot often = Checks.holding();
        for (int i = 0; i < 57; i++) {
            if (i % 19 == 0) {
                often.beat();
            }
            checks.same("19 ticks after each beat", Checks.tickAt(often, 500, 0, 1000), Checks.HOLD);
        }
        checks.same("20 ticks after a beat", Checks.tickAt(often, 500, 0, 1000), Checks.RETURN);
        often.beat();
        checks.same("a beat sets no mode", often.mode(), Checks.RETURN);
        often.command(Checks.HOLD);
        checks.same("after the beat", Checks.tickAt(often, 500, 0, 1000), Checks.HOLD);
        FencePilot ground = Checks.fenced();
        Checks.ticks(ground, 30);
        ground.beat();
        Checks.armedIn(ground);
        checks.same("a beat on the ground", Checks.tickAt(ground, 500, 0, 100), Checks.TAKEOFF);
    }

    private static void disarmedTickEnds(Checks checks) {
        checks.about("If the mode is DISARMED, the demand is 0, 0, 0, and the tick ends.");
        FencePilot pilot = Checks.fenced();
        for (int i = 1; i <= 25; i++) {
            checks.same("tick(0), lost and silent", pilot.tick(0), Checks.DISARMED);
        }
        checks.same("change(0)", pilot.change(0), -1);
        checks.same("tick(9) outside and high", Checks.tickAt(pilot, 9000, 0, 4000, 9), Checks.DISARMED);
        checks.vector("no guard", pilot, 0, 0, 0);
        checks.place("but a position", pilot, 9000, 0, 4000);
        FencePilot landed = Checks.flyingIn(Checks.LAND);
        Checks.tickAt(landed, 0, 0, 21);
        checks.vector("still in LAND", landed, 0, 0, -50);
        Checks.tickAt(landed, 0, 0, 20);
        Checks.tickAt(landed, 400, 0, 500);
        checks.vector("on the ground", landed, 0, 0, 0);
    }

    private static void flatBattery(Checks checks) {
        checks.about("If the battery is less than 10");
        for (int mode = Checks.TAKEOFF; mode <= Checks.LAND; mode++) {
            FencePilot flat = Checks.flyingIn(mode);
            checks.same("tick(9) in mode " + mode, Checks.tickAt(flat, 0, 500, 900, 9), Checks.LAND);
            checks.same("forced", flat.command(Checks.HOLD), FencePilot.REFUSED);
            checks.vector("LAND", flat, 0, 0, -50);
            FencePilot low = Checks.flyingIn(mode);
            int due = mode == Checks.LAND ? Checks.LAND : Checks.RETURN;
            checks.same("tick(10) in mode " + mode, Checks.tickAt(low, 0, 500, 900, 10), due);
            checks.same("not forced", low.command(Checks.HOLD), 0);
        }
        FencePilot blind = Checks.flyingIn(Checks.HOLD);
        checks.same("tick(9) while lost", blind.tick(9), Checks.LAND);
    }

    private static void lostTooLong(Checks checks) {
        checks.about("or lost is 5 or more: the mode becomes LAND, and LAND is forced.");
        for (int mode = Checks.TAKEOFF; mode <= Checks.LAND; mode++) {
            FencePilot pilot = Checks.flyingIn(mode);
            for (int lost = 1; lost <= 4; lost++) {
                checks.same("lost " + lost + " in mode " + mode, pilot.tick(90), mode);
            }
            checks.same("lost 5 in mode " + mode, pilot.tick(90), Checks.LAND);
            checks.same("forced", pilot.command(Checks.HOLD), FencePilot.REFUSED);
            checks.same("lost 6", pilot.tick(90), Checks.LAND);
            checks.same("found again", Checks.tickAt(pilot, 0, 0, 900), Checks.LAND);
            checks.same("still forced", pilot.command(Checks.HOLD), FencePilot.REFUSED);
        }
        FencePilot four = Checks.flyingIn(Checks.LAND);
        Checks.ticks(four, 4);
        checks.same("not forced after four", four.command(Checks.HOLD), 0);
        Checks.tickAt(four, 0, 0, 1000);
        Checks.ticks(four, 4);
        checks.same("found between", four.mode(), Checks.HOLD);
    }

    private static void lowBattery(Checks checks) {
        checks.about("Else, if the battery is less than 25");
        for (int mode = Checks.TAKEOFF; mode <= Checks.HOLD; mode++) {
            checks.same("tick(25) in mode " + mode, Checks.tickAt(Checks.flyingIn(mode), 500, 0, 900, 25), mode);
            checks.same("tick(24) in mode " + mode, Checks.tickAt(Checks.flyingIn(mode), 500, 0, 900, 24),
                Checks.RETURN);
            checks.same("tick(24) while lost", Checks.flyingIn(mode).tick(24), Checks.RETURN);
        }
        FencePilot lost = Checks.flyingIn(Checks.HOLD);
        Checks.ticks(lost, 4);
        checks.same("tick(24) when lost is 5", lost.tick(24), Checks.LAND);
    }

    private static void silence(Checks checks) {
        checks.about("or silent is 20 or more");
        for (int mode = Checks.TAKEOFF; mode <= Checks.HOLD; mode++) {
            FencePilot pilot = Checks.flyingIn(mode);
            pilot.beat();
            for (int silent = 1; silent <= 19; silent++) {
                checks.same("silent " + silent, Checks.tickAt(pilot, 500, 0, 900), mode);
            }
            checks.same("silent 20", Checks.tickAt(pilot, 500, 0, 900), Checks.RETURN);
            pilot.command(Checks.HOLD);
            checks.same("silent 21", Checks.tickAt(pilot, 500, 0, 900), Checks.RETURN);
        }
    }

    private static void neitherReturnNorLand(Checks checks) {
        checks.about("and the mode is neither RETURN nor LAND: the mode becomes RETURN.");
        for (int mode = Checks.RETURN; mode <= Checks.LAND; mode++) {
            FencePilot pilot = Checks.flyingIn(mode);
            int change = pilot.change(0);
            checks.same("tick(24) in mode " + mode, Checks.tickAt(pilot, 500, 0, 1000, 24), mode);
            checks.same("tick(10) in mode " + mode, Checks.tickAt(pilot, 500, 0, 1000, 10), mode);
            for (int i = 0; i < 25; i++) {
                Checks.tickAt(pilot, 500, 0, 1000);
            }
            checks.same("silent in mode " + mode, pilot.mode(), mode);
            checks.same("no change", pilot.change(0), change);
            checks.same("not forced", pilot.command(Checks.HOLD), 0);
        }
    }

    private static void stepsWaitWhileLost(Checks checks) {
        checks.about("If lost is 0, the first that holds of these, by the mode as it is now");
        FencePilot takeoff = Checks.fenced();
        Checks.tickAt(takeoff, 0, 0, 1000);
        takeoff.arm();
        checks.same("TAKEOFF while lost", takeoff.tick(90), Checks.TAKEOFF);
        checks.same("TAKEOFF when voted", Checks.tickAt(takeoff, 0, 0, 1000), Checks.HOLD);
        FencePilot mission = Checks.onMission(0, 0, 1000, 100, 0, 1000);
        mission.tick(90);
        checks.same("waypoint() while lost", mission.waypoint(), 0);
        Checks.tickAt(mission, 0, 0, 1000);
        checks.same("waypoint() when voted", mission.waypoint(), 1);
        FencePilot home = Checks.flyingIn(Checks.RETURN);
        checks.same("RETURN while lost", home.tick(90), Checks.RETURN);
        checks.same("RETURN when voted", Checks.tickAt(home, 0, 0, 1000), Checks.LAND);
        FencePilot landing = Checks.holding();
        Checks.tickAt(landing, 0, 0, 20);
        landing.command(Checks.LAND);
        checks.same("LAND while lost", landing.tick(90), Checks.LAND);
        checks.same("LAND when voted", Checks.tickAt(landing, 0, 0, 20), Checks.DISARMED);
    }

    private static void takeoff(Checks checks) {
        checks.about("TAKEOFF, and z is at least 1000: the mode becomes MISSION if the mission has items, else HOLD.");
        FencePilot empty = Checks.armed();
        checks.same("999 high", Checks.tickAt(empty, 0, 0, 999), Checks.TAKEOFF);
        checks.same("1000 high", Checks.tickAt(empty, 0, 0, 1000), Checks.HOLD);
        FencePilot loaded = Checks.armed();
        Checks.load(loaded, 0, 0, 2000);
        checks.same("999 high with an item", Checks.tickAt(loaded, 0, 0, 999), Checks.TAKEOFF);
        checks.same("1000 high with an item", Checks.tickAt(loaded, 0, 0, 1000), Checks.MISSION);
        FencePilot partly = Checks.armed();
        partly.upload(2);
        partly.item(0, 0, 0, 2000);
        checks.same("1000 high with half an upload", Checks.tickAt(partly, 0, 0, 1000), Checks.HOLD);
        FencePilot high = Checks.armed();
        checks.same("20000 high", Checks.tickAt(high, 0, 0, 20000), Checks.HOLD);
    }

    private static void reached(Checks checks) {
        checks.about("each coordinate of the waypoint's item differs by at most 100 from that of the position");
        int[] apart = {-101, -100, 0, 100, 101};
        for (int dx : apart) {
            for (int dy : apart) {
                for (int dz : apart) {
                    FencePilot pilot = Checks.onMission(1000, -2000, 1500, 3000, 0, 1000);
                    Checks.tickAt(pilot, 1000 + dx, -2000 + dy, 1500 + dz);
                    boolean there = Math.abs(dx) <= 100 && Math.abs(dy) <= 100 && Math.abs(dz) <= 100;
                    checks.same("waypoint() " + dx + ", " + dy + ", " + dz, pilot.waypoint(), there ? 1 : 0);
                }
            }
        }
    }

    private static void waypointGrows(Checks checks) {
        checks.about("the waypoint grows by 1");
        FencePilot pilot = Checks.onMission(1000, 0, 1000, 1000, 1000, 1200, 1000, 1000, 1200);
        checks.same("waypoint()", pilot.waypoint(), 0);
        Checks.tickAt(pilot, 1000, 0, 1000);
        checks.same("waypoint() after the first", pilot.waypoint(), 1);
        checks.vector("to the second", pilot, 0, 200, 200);
        Checks.tickAt(pilot, 1000, 1000, 1200);
        checks.same("one waypoint a tick", pilot.waypoint(), 2);
        pilot.command(Checks.HOLD);
        Checks.tickAt(pilot, 1000, 1000, 1200);
        checks.same("waypoint() stays in HOLD", pilot.waypoint(), 2);
        pilot.command(Checks.MISSION);
        checks.same("and after it", pilot.waypoint(), 2);
    }

    private static void lastItem(Checks checks) {
        checks.about("when the mission has no such item, the waypoint becomes 0 and the mode RETURN");
        for (int n = 1; n <= 8; n++) {
            int[] items = new int[3 * n];
            for (int k = 0; k < n; k++) {
                items[3 * k] = 1000 + 300 * k;
                items[3 * k + 2] = 1000;
            }
            FencePilot pilot = Checks.onMission(items);
            for (int k = 0; k + 1 < n; k++) {
                checks.same("item " + k + " of " + n, Checks.tickAt(pilot, items[3 * k], 0, 1000), Checks.MISSION);
                checks.same("waypoint()", pilot.waypoint(), k + 1);
            }
            checks.same("the last of " + n, Checks.tickAt(pilot, items[3 * n - 3], 0, 1000), Checks.RETURN);
            checks.same("waypoint() after it", pilot.waypoint(), 0);
            checks.vector("to home", pilot, -200, 0, 0);
            checks.same("flown again", pilot.command(Checks.MISSION), 0);
            Checks.tickAt(pilot, 4000, 0, 1000);
            checks.vector("to the first", pilot, -200, 0, 0);
        }
    }

    private static void comingHome(Checks checks) {
        checks.about("RETURN, and x and y are both from -100 to 100: the mode becomes LAND.");
        int[] places = {-101, -100, 0, 100, 101};
        for (int x : places) {
            for (int y : places) {
                FencePilot pilot = Checks.flyingIn(Checks.RETURN);
                boolean home = Math.abs(x) <= 100 && Math.abs(y) <= 100;
                checks.same("at " + x + ", " + y, Checks.tickAt(pilot, x, y, 1000),
                    home ? Checks.LAND : Checks.RETURN);
            }
        }
        checks.same("at any height", Checks.tickAt(Checks.flyingIn(Checks.RETURN), 0, 0, 20000), Checks.LAND);
        checks.same("HOLD stays at home", Checks.tickAt(Checks.holding(), 0, 0, 1000), Checks.HOLD);
    }

    private static void landed(Checks checks) {
        checks.about("LAND, and z is at most 20: the mode becomes DISARMED.");
        FencePilot pilot = Checks.flyingIn(Checks.LAND);
        checks.same("21 high", Checks.tickAt(pilot, 3000, 0, 21), Checks.LAND);
        checks.same("20 high", Checks.tickAt(pilot, 3000, 0, 20), Checks.DISARMED);
        checks.same("below the ground", Checks.tickAt(Checks.flyingIn(Checks.LAND), 0, 0, -2000), Checks.DISARMED);
        checks.same("outside the fence", Checks.tickAt(Checks.flyingIn(Checks.LAND), 9000, 0, 20), Checks.DISARMED);
        checks.same("HOLD does not land", Checks.tickAt(Checks.flyingIn(Checks.HOLD), 0, 0, 20), Checks.HOLD);
        checks.same("RETURN does not land", Checks.tickAt(Checks.flyingIn(Checks.RETURN), 500, 0, 20), Checks.RETURN);
        checks.same("TAKEOFF does not land", Checks.tickAt(Checks.armed(), 0, 0, 20), Checks.TAKEOFF);
    }

    private static void oneStepATick(Checks checks) {
        checks.about("the first that holds of these");
        FencePilot mission = Checks.armed();
        Checks.load(mission, 0, 0, 1000);
        checks.same("TAKEOFF over its item", Checks.tickAt(mission, 0, 0, 1000), Checks.MISSION);
        checks.same("waypoint()", mission.waypoint(), 0);
        checks.same("the item at home", Checks.tickAt(mission, 0, 0, 1000), Checks.RETURN);
        checks.same("home", Checks.tickAt(mission, 0, 0, 20), Checks.LAND);
        checks.same("landed", Checks.tickAt(mission, 0, 0, 20), Checks.DISARMED);
    }

    private static void takeoffDemand(Checks checks) {
        checks.about("The demand, by the mode as it is now: TAKEOFF 0, 0, 100.");
        FencePilot pilot = Checks.armed();
        checks.vector("not before the tick", pilot, 0, 0, 0);
        Checks.tickAt(pilot, 300, -300, 999);
        checks.vector("TAKEOFF", pilot, 0, 0, 100);
        Checks.tickAt(pilot, 300, -300, 1000);
        checks.vector("no longer TAKEOFF", pilot, 0, 0, 0);
    }

    private static void holdDemand(Checks checks) {
        checks.about("HOLD and DISARMED 0, 0, 0.");
        FencePilot pilot = Checks.flyingIn(Checks.MISSION);
        checks.vector("MISSION before it", pilot, 200, 0, 0);
        pilot.command(Checks.HOLD);
        checks.vector("not before the tick", pilot, 200, 0, 0);
        Checks.tickAt(pilot, 4800, -4800, 2800);
        checks.vector("HOLD", pilot, 0, 0, 0);
        pilot.command(Checks.LAND);
        Checks.tickAt(pilot, 300, -300, 20);
        checks.vector("DISARMED", pilot, 0, 0, 0);
    }

    private static void landDemand(Checks checks) {
        checks.about("LAND 0, 0, -50.");
        FencePilot pilot = Checks.flyingIn(Checks.LAND);
        Checks.tickAt(pilot, 300, -300, 1000);
        checks.vector("high", pilot, 0, 0, -50);
        Checks.tickAt(pilot, 4800, -4800, 21);
        checks.vector("low", pilot, 0, 0, -50);
        FencePilot home = Checks.flyingIn(Checks.RETURN);
        Checks.tickAt(home, 100, -100, 1000);
        checks.vector("in the tick that brought it home", home, 0, 0, -50);
        Checks.tickAt(home, 100, -100, 20);
        checks.vector("landed", home, 0, 0, 0);
    }

    private static void saturated(Checks checks) {
        checks.about("making each of its coordinates that is more than n into n, "
            + "and each that is less than -n into -n");
        int[][] cases = {{201, -201, 200}, {200, -200, 201}, {199, -199, -201}, {-201, 201, -200},
            {-200, 200, -199}, {1000, 1, 199}, {-1000, -1, 900}};
        for (int[] c : cases) {
            FencePilot pilot = Checks.onMission(1000, 1000, 1500);
            Checks.tickAt(pilot, 1000 - c[0], 1000 - c[1], 1500 - c[2]);
            checks.vector(c[0] + ", " + c[1] + ", " + c[2], pilot, Math.max(-200, Math.min(200, c[0])),
                Math.max(-200, Math.min(200, c[1])), Math.max(-200, Math.min(200, c[2])));
        }
    }

    private static void missionDemand(Checks checks) {
        checks.about("MISSION: the waypoint's item less the position, saturated to 200.");
        int[][] cases = {{201, 200}, {200, 200}, {199, 199}, {101, 101}, {-101, -101}, {-199, -199},
            {-200, -200}, {-201, -200}};
        for (int[] c : cases) {
            FencePilot pilot = Checks.onMission(1000, 1000, 1500);
            Checks.tickAt(pilot, 1000 - c[0], 1000, 1500);
            checks.vector("x " + c[0], pilot, c[1], 0, 0);
            Checks.tickAt(pilot, 1000, 1000 - c[0], 1490);
            checks.vector("y " + c[0], pilot, 0, c[1], 10);
            Checks.tickAt(pilot, 1000, 1003, 1500 - c[0]);
            checks.vector("z " + c[0], pilot, 0, -3, c[1]);
        }
        FencePilot wide = Checks.armedIn(Checks.fenced(10000, 10000));
        Checks.load(wide, -10000, 10000, 500);
        Checks.tickAt(wide, 9000, -9000, 9800);
        checks.vector("far away", wide, -200, 200, -200);
    }

    private static void returnDemand(Checks checks) {
        checks.about("RETURN: -x, -y, 0, saturated to 200.");
        int[][] cases = {{201, -200}, {200, -200}, {199, -199}, {101, -101}, {-101, 101}, {-199, 199},
            {-200, 200}, {-201, 200}, {4800, -200}, {-4800, 200}};
        for (int[] c : cases) {
            FencePilot pilot = Checks.flyingIn(Checks.RETURN);
            Checks.tickAt(pilot, c[0], 7, 1000);
            checks.vector("x " + c[0], pilot, c[1], -7, 0);
            Checks.tickAt(pilot, -8, c[0], 1000);
            checks.vector("y " + c[0], pilot, 8, c[1], 0);
        }
    }

    private static void demandsWhileLost(Checks checks) {
        checks.about("If lost is more than 0, its first two coordinates become 0, "
            + "and its third too unless the mode is LAND.");
        for (int mode = Checks.TAKEOFF; mode <= Checks.LAND; mode++) {
            FencePilot pilot = Checks.flyingIn(mode);
            Checks.tickAt(pilot, 2500, 2500, 900);
            checks.same("mode()", pilot.mode(), mode);
            for (int lost = 1; lost <= 4; lost++) {
                pilot.tick(90);
                checks.vector("lost " + lost + " in mode " + mode, pilot, 0, 0, mode == Checks.LAND ? -50 : 0);
            }
            pilot.tick(90);
            checks.vector("forced to LAND", pilot, 0, 0, -50);
        }
        FencePilot climbing = Checks.onMission(4000, 0, 2500);
        checks.vector("voted", climbing, 200, 0, 200);
        climbing.tick(90);
        checks.vector("lost", climbing, 0, 0, 0);
    }

    private static void demandAxes(Checks checks) {
        checks.about("of the latest tick's demand, 0 before the first tick; 0 when axis is not 0 to 2.");
        FencePilot pilot = new FencePilot();
        checks.vector("before the first tick", pilot, 0, 0, 0);
        pilot = Checks.onMission(110, -120, 1130);
        checks.vector("axes", pilot, 110, -120, 130);
        int[] beyond = {-1, 3, -2, 4};
        for (int axis : beyond) {
            checks.same("demand(" + axis + ")", pilot.demand(axis), 0);
        }
        for (int axis : Checks.FAR) {
            checks.same("demand(" + axis + ")", pilot.demand(axis), 0);
        }
        pilot.command(Checks.LAND);
        pilot.sample(0, 1, 1, 1);
        pilot.tick(101);
        checks.vector("until the next tick", pilot, 110, -120, 130);
    }
}
