import java.util.LinkedHashMap;
import java.util.List;
import java.util.Map;
import java.util.Set;
import java.util.function.Consumer;
import java.util.function.Function;
import java.util.function.Supplier;

/**
 * That a call changes nothing but what the document says of it: of two equal craft one gets the call,
 * and then all that it does not name must be the same in both.
 */
public final class StayTest {
    private final Checks checks = new Checks();
    /** What an object holds, each with a way to find it out, whatever the mode is. */
    private final Map<String, Function<FencePilot, String>> parts = new LinkedHashMap<>();

    public static void main(String[] args) {
        StayTest test = new StayTest();
        test.addParts();
        test.acceptedCalls();
        test.ticks();
        test.checks.finish();
    }

    private void addParts() {
        parts.put("fence", StayTest::fenceOf);
        parts.put("corners", StayTest::cornersOf);
        parts.put("mission", StayTest::missionOf);
        parts.put("upload", StayTest::uploadOf);
        parts.put("samples", StayTest::samplesOf);
        parts.put("silent", StayTest::silentOf);
        parts.put("place", p -> p.position(0) + " " + p.position(1) + " " + p.position(2) + " " + p.lost());
        parts.put("demand", p -> p.demand(0) + " " + p.demand(1) + " " + p.demand(2));
        parts.put("mode", p -> p.mode() + " " + p.change(0) + " " + p.change(1) + " " + p.change(2));
        parts.put("forced", p -> p.command(Checks.HOLD) == FencePilot.REFUSED ? "forced" : "free");
        parts.put("ticks", StayTest::ticksOf);
    }

    private static void land(FencePilot pilot) {
        pilot.command(Checks.LAND);
        Checks.tickAt(pilot, 0, 0, 0);
    }

    private static String fenceOf(FencePilot pilot) {
        String sides = pilot.safe(4800, 0) + " " + pilot.safe(4801, 0) + " " + pilot.safe(1801, 0);
        pilot.command(Checks.HOLD);
        Checks.tickAt(pilot, 0, 0, 2900);
        return sides + (pilot.mode() == Checks.HOLD ? " " + pilot.demand(2) : "");
    }

    private static String cornersOf(FencePilot pilot) {
        land(pilot);
        return pilot.fence(2000) + " " + pilot.safe(1800, 0) + " " + pilot.safe(1801, 0);
    }

    private static String missionOf(FencePilot pilot) {
        int before = pilot.waypoint();
        land(pilot);
        pilot.arm();
        pilot.beat();
        Checks.tickAt(pilot, 0, 0, 1000);
        return before + " " + pilot.waypoint() + " " + pilot.mode() + " " + pilot.demand(0);
    }

    private static String uploadOf(FencePilot pilot) {
        int wanted = pilot.wanted();
        int lasted = 0;
        while (pilot.wanted() >= 0 && lasted < 40) {
            pilot.tick(90);
            lasted++;
        }
        return wanted + " for " + lasted;
    }

    private static String samplesOf(FencePilot pilot) {
        pilot.sample(1, 1000, 1000, 1000);
        pilot.tick(90);
        return pilot.lost() == 0 ? "voted " + pilot.position(0) : "not voted";
    }

    private static String silentOf(FencePilot pilot) {
        int lasted = 0;
        if (pilot.mode() == Checks.DISARMED || pilot.mode() == Checks.LAND) {
            land(pilot);
            pilot.arm();
            lasted = 1;
        }
        pilot.command(Checks.HOLD);
        while (pilot.mode() == Checks.HOLD && lasted < 40) {
            Checks.tickAt(pilot, 500, 0, 1000);
            lasted++;
        }
        return "for " + lasted;
    }

    private static String ticksOf(FencePilot pilot) {
        land(pilot);
        pilot.arm();
        return "" + pilot.change(0) / 8;
    }

    /** In MISSION at its second item, with corners, half an upload and a sample given. */
    private static FencePilot flying() {
        FencePilot pilot = Checks.onMission(1000, 0, 1000, 3000, 0, 1000);
        Checks.tickAt(pilot, 1000, 0, 1000);
        give(pilot);
        return pilot;
    }

    /** The same on the ground. */
    private static FencePilot grounded() {
        FencePilot pilot = Checks.onMission(1000, 0, 1000, 3000, 0, 1000);
        Checks.tickAt(pilot, 1000, 0, 1000);
        land(pilot);
        give(pilot);
        return pilot;
    }

    /** The same in a LAND that is forced. */
    private static FencePilot forced() {
        FencePilot pilot = Checks.onMission(1000, 0, 1000, 3000, 0, 1000);
        Checks.tickAt(pilot, 1000, 0, 1000);
        Checks.tickAt(pilot, 1000, 0, 1000, 9);
        give(pilot);
        return pilot;
    }

    /** The same, and lost for one tick. */
    private static FencePilot lost() {
        FencePilot pilot = flying();
        pilot.tick(90);
        pilot.sample(0, 40, 50, 60);
        return pilot;
    }

    private static void give(FencePilot pilot) {
        Checks.square(pilot, 2000);
        pilot.upload(3);
        pilot.item(0, -1000, 0, 1000);
        for (int i = 0; i < 12; i++) {
            Checks.tickAt(pilot, 500, 30, pilot.mode() == Checks.DISARMED ? 0 : 1000);
        }
        pilot.sample(0, 40, 50, 60);
    }

    private void acceptedCalls() {
        checks.about("Nothing is promised beyond the answers and state changes described above");
        for (Supplier<FencePilot> made : List.<Supplier<FencePilot>>of(
                StayTest::flying, StayTest::grounded, StayTest::forced, StayTest::lost)) {
            heldAtFirst(made);
            compare("corner", made, p -> p.corner(0, 2001), Set.of("corners"));
            compare("erase", made, FencePilot::erase, Set.of("corners"));
            compare("upload", made, p -> p.upload(1), Set.of("upload"));
            compare("item", made, p -> p.item(1, 0, 0, 1000), Set.of("upload"));
            compare("the last item", made, p -> {
                p.item(1, 0, 0, 1000);
                p.item(2, 0, 0, 1000);
            }, Set.of("upload", "mission"));
            compare("sample", made, p -> p.sample(0, 4000, 0, 0), Set.of("samples"));
            compare("another sample", made, p -> p.sample(2, 4000, 0, 0), Set.of("samples"));
            compare("beat", made, FencePilot::beat, Set.of("silent"));
        }
        compare("fence", StayTest::grounded, p -> p.fence(1600), Set.of("fence", "corners"));
        compare("arm", StayTest::grounded, FencePilot::arm, Set.of("mode", "fence"));
        for (int mode = Checks.MISSION; mode <= Checks.LAND; mode++) {
            int wish = mode;
            compare("command", StayTest::flying, p -> p.command(wish), Set.of("mode"));
        }
    }

    /** What the states hold is looked at too, lest a call that makes them takes it away from both craft. */
    private void heldAtFirst(Supplier<FencePilot> made) {
        checks.yes("the fence", made.get().safe(4800, 0));
        checks.same("the waypoint", made.get().waypoint(), 1);
        checks.same("the item wanted", made.get().wanted(), 1);
        checks.yes("the corners", cornersOf(made.get()).equals("0 true false"));
        checks.yes("the sample", samplesOf(made.get()).equals("voted 520"));
    }

    private void ticks() {
        checks.about("A TICK does the following in this order");
        compareTicks("a low battery", StayTest::flying, p -> Checks.tickAt(p, 500, 30, 1000, 90),
            p -> Checks.tickAt(p, 500, 30, 1000, 24), Set.of("mode", "demand"));
        compareTicks("a flat battery", StayTest::flying, p -> Checks.tickAt(p, 500, 30, 1000, 90),
            p -> Checks.tickAt(p, 500, 30, 1000, 9), Set.of("mode", "demand", "forced", "fence"));
        compareTicks("coming home", () -> in(Checks.RETURN), p -> Checks.tickAt(p, 101, 0, 1000),
            p -> Checks.tickAt(p, 100, 0, 1000), Set.of("mode", "demand", "place"));
        compareTicks("landing", () -> in(Checks.LAND), p -> Checks.tickAt(p, 500, 0, 21),
            p -> Checks.tickAt(p, 500, 0, 20), Set.of("mode", "demand", "place", "fence"));
        compareTicks("reaching an item", StayTest::flying, p -> Checks.tickAt(p, 2899, 0, 1000),
            p -> Checks.tickAt(p, 2900, 0, 1000), Set.of("mode", "demand", "place", "mission"));
    }

    private static FencePilot in(int mode) {
        FencePilot pilot = flying();
        pilot.command(mode);
        return pilot;
    }

    private void compare(String call, Supplier<FencePilot> made, Consumer<FencePilot> done, Set<String> named) {
        compareTicks(call, made, p -> { }, done, named);
    }

    private void compareTicks(String what, Supplier<FencePilot> made, Consumer<FencePilot> plain,
            Consumer<FencePilot> done, Set<String> named) {
        for (Map.Entry<String, Function<FencePilot, String>> part : parts.entrySet()) {
            if (!named.contains(part.getKey())) {
                FencePilot one = made.get();
                done.accept(one);
                FencePilot other = made.get();
                plain.accept(other);
                String got = part.getValue().apply(one);
                String want = part.getValue().apply(other);
                checks.yes(what + " leaves " + part.getKey() + ", but " + got + " is not " + want, got.equals(want));
            }
        }
    }
}
