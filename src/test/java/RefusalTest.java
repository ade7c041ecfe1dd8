import java.util.ArrayList;
import java.util.List;
import java.util.function.Consumer;
import java.util.function.Predicate;
import java.util.function.Supplier;

/**
 * That refused calls, and calls that only ask, change nothing: of two equal craft one gets such a
 * call, and then both must give the same answers to the same calls, whatever comes next.
 */
public final class RefusalTest {
    /** A call, and whether it was refused. */
    private record Call(String name, Predicate<FencePilot> isRefused) { }

    private record State(String name, Supplier<FencePilot> made) { }

    private final Checks checks = new Checks();
    private final List<State> states = new ArrayList<>();
    private final List<Call> refusals = new ArrayList<>();
    private final List<Consumer<FencePilot>> questions = new ArrayList<>();
    private final List<Consumer<FencePilot>> futures = new ArrayList<>();

    public static void main(String[] args) {
        RefusalTest test = new RefusalTest();
        test.addGroundStates();
        test.addFlyingStates();
        test.addRefusals();
        test.addQuestions();
        test.addFutures();
        test.refusedCallsChangeNothing();
        test.questionsChangeNothing();
        test.checks.finish();
    }

    private void refusedCallsChangeNothing() {
        checks.about("A call that is refused changes nothing");
        for (Call call : refusals) {
            int refused = 0;
            for (State state : states) {
                if (call.isRefused.test(state.made.get())) {
                    compare(call.name + " " + state.name, state, call.isRefused::test);
                    refused++;
                }
            }
            checks.yes(call.name + " is refused in some state", refused > 0);
        }
    }

    private void questionsChangeNothing() {
        checks.about("Nothing is promised beyond the answers and state changes described above");
        for (State state : states) {
            for (int i = 0; i < questions.size(); i++) {
                compare("question " + i + " " + state.name, state, questions.get(i));
            }
        }
    }

    private void compare(String name, State state, Consumer<FencePilot> call) {
        for (int i = 0; i < futures.size(); i++) {
            FencePilot asked = state.made.get();
            call.accept(asked);
            FencePilot other = state.made.get();
            checks.yes(name + " is not seen at once", seen(asked).equals(seen(other)));
            futures.get(i).accept(asked);
            futures.get(i).accept(other);
            checks.yes(name + " is not seen after future " + i, seen(asked).equals(seen(other)));
        }
    }

    /** All that an object answers to questions. */
    private static String seen(FencePilot pilot) {
        StringBuilder text = new StringBuilder();
        text.append(pilot.mode()).append(' ').append(pilot.lost()).append(' ');
        text.append(pilot.waypoint()).append(' ').append(pilot.wanted()).append(' ');
        for (int axis = 0; axis < 3; axis++) {
            text.append(pilot.position(axis)).append(' ').append(pilot.demand(axis)).append(' ');
        }
        for (int k = 0; k < 4; k++) {
            text.append(pilot.change(k)).append(' ');
        }
        for (int x = -4800; x <= 4800; x += 3200) {
            text.append(pilot.safe(x, 0)).append(pilot.safe(0, x));
        }
        return text.toString();
    }

    private void add(String name, Supplier<FencePilot> made) {
        states.add(new State(name, made));
    }

    private static FencePilot with(FencePilot pilot, Consumer<FencePilot> then) {
        then.accept(pilot);
        return pilot;
    }

    private void addGroundStates() {
        add("when new", FencePilot::new);
        add("with two corners", () -> with(new FencePilot(), p -> Checks.corners(p, -5000, -5000, 5000, -5000)));
        add("with a square", () -> with(new FencePilot(), p -> Checks.square(p, 5000)));
        add("with crooked corners", () -> with(new FencePilot(), p -> Checks.corners(p, 0, 0, 0, 5, 5, 0)));
        add("with corners too near", () -> with(new FencePilot(), p -> Checks.square(p, 999)));
        add("with eight corners", () -> with(new FencePilot(), p -> Checks.corners(p, 4000, -2000, 4000, 2000,
            2000, 4000, -2000, 4000, -4000, 2000, -4000, -2000, -2000, -4000, 2000, -4000)));
        add("with a fence", Checks::fenced);
        add("with a fence and corners", () -> with(Checks.fenced(), p -> Checks.square(p, 2000)));
        for (int sensor = 0; sensor < 3; sensor++) {
            int k = sensor;
            add("with a sample of " + k, () -> with(Checks.fenced(), p -> p.sample(k, 40, 50, 60)));
        }
        add("with an upload", () -> with(Checks.fenced(), p -> p.upload(2)));
        add("with an old upload", () -> with(Checks.fenced(), p -> {
            p.upload(3);
            p.item(0, 1000, 0, 1000);
            Checks.ticks(p, 29);
        }));
        add("with an upload of age 9", () -> with(Checks.fenced(), p -> {
            p.upload(2);
            Checks.ticks(p, 19);
        }));
        add("outside the fence", () -> with(Checks.fenced(), p -> Checks.tickAt(p, 4801, 0, 0)));
        add("lost", () -> with(Checks.fenced(), p -> Checks.ticks(p, 6)));
    }

    private void addFlyingStates() {
        for (int mode = Checks.TAKEOFF; mode <= Checks.LAND; mode++) {
            int flown = mode;
            add("in mode " + mode, () -> Checks.flyingIn(flown));
            add("lost in mode " + mode, () -> with(Checks.flyingIn(flown), p -> Checks.ticks(p, 4)));
        }
        add("holding without a mission", Checks::holding);
        add("in a forced LAND", () -> with(Checks.holding(), p -> Checks.tickAt(p, 500, 0, 1000, 9)));
        add("nearly silent", () -> with(Checks.holding(), p -> {
            for (int i = 0; i < 17; i++) {
                Checks.tickAt(p, 500, 0, 1000);
            }
        }));
        add("at the second item", () -> with(Checks.onMission(1000, 0, 1000, 3000, 0, 1000), p -> {
            Checks.tickAt(p, 1000, 0, 1000);
            p.upload(2);
            p.item(0, -1000, 0, 1000);
            p.sample(1, 1200, 0, 1000);
            Checks.square(p, 2000);
        }));
        add("landed", () -> with(Checks.flyingIn(Checks.LAND), p -> Checks.tickAt(p, 0, 0, 20)));
    }

    private void addCode(String name, java.util.function.ToIntFunction<FencePilot> call) {
        refusals.add(new Call(name, p -> call.applyAsInt(p) < 0));
    }

    private void addFalse(String name, Predicate<FencePilot> call) {
        refusals.add(new Call(name, call.negate()));
    }

    private void addRefusals() {
        addFalse("corner(10001, 0)", p -> p.corner(10001, 0));
        addFalse("corner(0, -10001)", p -> p.corner(0, -10001));
        addFalse("corner(0, 0)", p -> p.corner(0, 0));
        addCode("fence(2000)", p -> p.fence(2000));
        addCode("fence(1499)", p -> p.fence(1499));
        addCode("fence(10001)", p -> p.fence(10001));
        addCode("upload(0)", p -> p.upload(0));
        addCode("upload(9)", p -> p.upload(9));
        addCode("item(0, 5, 5, 600)", p -> p.item(0, 5, 5, 600));
        addCode("item(0, 10001, 0, 600)", p -> p.item(0, 10001, 0, 600));
        addCode("item(0, 0, -10001, 600)", p -> p.item(0, 0, -10001, 600));
        addCode("item(1, 0, 0, 499)", p -> p.item(1, 0, 0, 499));
        addCode("item(0, 0, 0, 10001)", p -> p.item(0, 0, 0, 10001));
        // Not the item wanted: "that number is answered, and nothing changes".
        refusals.add(new Call("item(7, 5, 5, 600)", p -> p.item(7, 5, 5, 600) != FencePilot.DONE));
        refusals.add(new Call("item(-1, 5, 5, 600)", p -> p.item(-1, 5, 5, 600) != FencePilot.DONE));
        addFalse("sample(-1, 1, 1, 1)", p -> p.sample(-1, 1, 1, 1));
        addFalse("sample(3, 1, 1, 1)", p -> p.sample(3, 1, 1, 1));
        for (int sensor = 0; sensor < 3; sensor++) {
            int k = sensor;
            addFalse("sample(" + k + ", 20001, 1, 1)", p -> p.sample(k, 20001, 1, 1));
            addFalse("sample(" + k + ", 1, -20001, 1)", p -> p.sample(k, 1, -20001, 1));
            addFalse("sample(" + k + ", 1, 1, -2001)", p -> p.sample(k, 1, 1, -2001));
        }
        addCode("arm()", FencePilot::arm);
        for (int mode = 0; mode <= 6; mode++) {
            int wish = mode;
            addCode("command(" + mode + ")", p -> p.command(wish));
        }
        addCode("tick(-1)", p -> p.tick(-1));
        addCode("tick(101)", p -> p.tick(101));
    }

    private void addQuestions() {
        questions.add(p -> p.safe(1, 1));
        questions.add(p -> p.safe(20001, 0));
        questions.add(FencePilot::wanted);
        questions.add(FencePilot::mode);
        questions.add(FencePilot::lost);
        questions.add(FencePilot::waypoint);
        for (int at = -1; at <= 3; at++) {
            int axis = at;
            questions.add(p -> p.demand(axis));
            questions.add(p -> p.position(axis));
            questions.add(p -> p.change(axis));
        }
        questions.add(p -> p.change(16));
    }

    private void addFutures() {
        futures.add(p -> p.tick(90));
        futures.add(p -> Checks.ticks(p, 5));
        futures.add(p -> Checks.ticks(p, 11));
        for (int sensor = 0; sensor < 3; sensor++) {
            int k = sensor;
            futures.add(p -> {
                p.sample(k, 700, 300, 800);
                p.tick(90);
            });
        }
        futures.add(p -> Checks.tickAt(p, 500, 0, 2950));
        futures.add(p -> {
            for (int i = 0; i < 3; i++) {
                Checks.tickAt(p, 500, 0, 1000);
            }
        });
        futures.add(p -> p.fence(2500));
        futures.add(p -> {
            p.corner(5000, 5000);
            p.corner(-5000, 5000);
            p.fence(2500);
        });
        futures.add(p -> {
            Checks.tickAt(p, 500, 0, 20);
            p.arm();
            Checks.tickAt(p, 500, 0, 1290);
        });
        addCommandFutures();
        addItemFutures();
    }

    private void addCommandFutures() {
        for (int mode = Checks.MISSION; mode <= Checks.LAND; mode++) {
            int wish = mode;
            futures.add(p -> p.command(wish));
            futures.add(p -> {
                p.command(wish);
                Checks.tickAt(p, 4700, 0, 2700);
            });
        }
    }

    private void addItemFutures() {
        futures.add(p -> {
            for (int k = 0; k < 3; k++) {
                p.item(k, 2000, -2000, 1000);
            }
            p.command(Checks.MISSION);
            Checks.tickAt(p, 500, 0, 1000);
        });
        futures.add(p -> {
            p.item(p.wanted(), 2000, 2000, 1000);
            Checks.ticks(p, 29);
        });
    }
}
