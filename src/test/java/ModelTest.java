import java.util.Random;

/** All promises together: long runs of calls, the same ones every time, against PlainPilot's answers. */
public final class ModelTest {
    private static final int RUNS = 4000;
    /** Steps of a few calls each: more than the 512 that are promised, so that a run meets more. */
    private static final int STEPS = 512;
    private static final int[] ODD = {Integer.MIN_VALUE, -20001, -20000, -10001, -10000, -2001, -2000, -1,
        0, 1, 499, 500, 1000, 1499, 1500, 10000, 10001, 20000, 20001, Integer.MAX_VALUE};

    private final Checks checks = new Checks();
    private final Random random;
    private final FencePilot real = new FencePilot();
    private final PlainPilot plain = new PlainPilot();
    /** Where the craft truly is, so that flights come home and land. */
    private final int[] craft = new int[3];
    private final int wildness;
    private final int run;
    private int[] goal = new int[3];
    private final int[] seen;

    private ModelTest(int run, int[] seen) {
        this.run = run;
        this.seen = seen;
        random = new Random(run);
        wildness = random.nextInt(3);
    }

    public static void main(String[] args) {
        int[] seen = new int[8];
        for (int run = 0; run < RUNS; run++) {
            ModelTest test = new ModelTest(run, seen);
            if (!test.fly()) {
                test.checks.finish();
            }
        }
        System.out.println(RUNS + " runs are as due; ticks by mode " + java.util.Arrays.toString(seen));
        for (int mode = 0; mode <= 5; mode++) {
            if (seen[mode] < RUNS) {
                System.out.println("too few ticks ended in mode " + mode);
                System.exit(1);
            }
        }
    }

    private boolean same(String call, int got, int want) {
        if (got != want) {
            checks.same("run " + run + ": " + call, got, want);
        }
        return got == want;
    }

    private static int bit(boolean answer) {
        return answer ? 1 : 0;
    }

    private int near(int value, int spread) {
        return value + random.nextInt(2 * spread + 1) - spread;
    }

    private int odd() {
        return ODD[random.nextInt(ODD.length)];
    }

    private boolean fly() {
        int steps = 0;
        if (random.nextInt(8) != 0) {
            shape();
            steps += 10;
        }
        for (; steps < STEPS; steps++) {
            if (!call() || !look()) {
                return false;
            }
        }
        return true;
    }

    private void shape() {
        int n = 3 + random.nextInt(6);
        double turn = random.nextDouble() * 6.28;
        int reach = 2500 + random.nextInt(7500);
        for (int i = 0; i < n; i++) {
            double angle = turn + 6.2831853 * i / n;
            int x = (int) (reach * Math.cos(angle));
            int y = (int) (reach * Math.sin(angle));
            same("corner", bit(real.corner(x, y)), bit(plain.corner(x, y)));
        }
        int top = 1500 + random.nextInt(4) * random.nextInt(2800);
        same("fence", real.fence(top), plain.fence(top));
    }

    private boolean call() {
        int pick = random.nextInt(42);
        if (pick < 24) {
            return flownTick();
        } else if (pick < 28) {
            return upload();
        } else if (pick < 30) {
            return same("arm()", real.arm(), plain.arm());
        } else if (pick < 32) {
            int mode = random.nextInt(8) - 1;
            return same("command(" + mode + ")", real.command(mode), plain.command(mode));
        } else if (pick < 34) {
            real.beat();
            plain.beat();
            return true;
        } else if (pick < 36) {
            return corners();
        } else if (pick < 38) {
            int x = near(craft[0], 300);
            int y = near(craft[1], 300);
            return same("safe(" + x + ", " + y + ")", bit(real.safe(x, y)), bit(plain.safe(x, y)));
        }
        // A sample that waits for its tick while other calls come in between.
        return pick < 40 ? give(pick % 3, near(craft[0], 9), near(craft[1], 9), craft[2]) : wrongCall();
    }

    private boolean flownTick() {
        move();
        int sensors = random.nextInt(12 + 8 * wildness);
        for (int k = 0; k < 3; k++) {
            if (sensors > 3 || k == sensors) {
                int spread = random.nextInt(6) == 0 ? 2000 : 3;
                if (!give(k, near(craft[0], spread), near(craft[1], spread), near(craft[2], 3))) {
                    return false;
                }
            }
        }
        int battery = random.nextInt(20) == 0 ? random.nextInt(30) : 10 + random.nextInt(91);
        if (wildness == 2) {
            battery = 25 + random.nextInt(76);
        }
        int got = real.tick(battery);
        if (got >= 0) {
            seen[got]++;
        }
        return same("tick(" + battery + ")", got, plain.tick(battery));
    }

    private void move() {
        for (int axis = 0; axis < 3; axis++) {
            craft[axis] += real.demand(axis) * (1 + random.nextInt(4));
            craft[axis] = Math.max(axis == 2 ? 0 : -12000, Math.min(12000, craft[axis]));
        }
        int jump = random.nextInt(25);
        if (jump == 0) {
            craft[random.nextInt(3)] += near(0, 1000);
        } else if (jump == 1 && real.mode() == 2) {
            craft[0] = near(goal[0], 110);
            craft[1] = near(goal[1], 110);
            craft[2] = near(goal[2], 110);
        } else if (jump == 2) {
            craft[0] = near(0, 120);
            craft[1] = near(0, 120);
        } else if (jump == 3 && real.mode() == 5) {
            craft[2] = near(20, 5);
        } else if (jump == 4) {
            craft[2] = near(1000, 5);
        }
    }

    private boolean give(int k, int x, int y, int z) {
        return same("sample(" + k + ", " + x + ", " + y + ", " + z + ")",
            bit(real.sample(k, x, y, z)), bit(plain.sample(k, x, y, z)));
    }

    private boolean upload() {
        if (real.wanted() < 0 || random.nextInt(30) == 0) {
            int n = random.nextInt(9) == 0 ? random.nextInt(12) - 1 : 1 + random.nextInt(3);
            return same("upload(" + n + ")", real.upload(n), plain.upload(n));
        }
        int k = random.nextInt(6) == 0 ? random.nextInt(9) - 1 : real.wanted();
        int x = near(0, 4000);
        int y = near(0, 4000);
        int z = random.nextInt(9) == 0 ? near(500, 3) : 500 + random.nextInt(4000);
        goal = new int[] {x, y, z};
        return same("item(" + k + ", " + x + ", " + y + ", " + z + ")",
            real.item(k, x, y, z), plain.item(k, x, y, z));
    }

    private boolean corners() {
        int x = near(0, 10000);
        int y = near(0, 10000);
        int pick = random.nextInt(10);
        if (pick == 0) {
            real.erase();
            plain.erase();
            return true;
        } else if (pick < 3) {
            return same("fence(2500)", real.fence(2500), plain.fence(2500));
        }
        return same("corner(" + x + ", " + y + ")", bit(real.corner(x, y)), bit(plain.corner(x, y)));
    }

    private boolean wrongCall() {
        int a = random.nextInt(3);
        int x = odd();
        int y = odd();
        int z = odd();
        switch (random.nextInt(9)) {
            case 0:
                return give(a, x, y, z);
            case 1:
                return same("corner", bit(real.corner(x, y)), bit(plain.corner(x, y)));
            case 2:
                return same("fence(" + x + ")", real.fence(x), plain.fence(x));
            case 3:
                return same("upload(" + x + ")", real.upload(x), plain.upload(x));
            case 4:
                return same("item", real.item(a, x, y, z), plain.item(a, x, y, z));
            case 5:
                return same("command(" + x + ")", real.command(x), plain.command(x));
            case 6:
                return same("tick(" + x + ")", real.tick(x), plain.tick(x));
            case 7:
                return same("safe", bit(real.safe(x, y)), bit(plain.safe(x, y)));
            default:
                return same("axes", real.demand(x) + real.position(y) + real.change(z),
                    plain.demand(x) + plain.position(y) + plain.change(z));
        }
    }

    private boolean look() {
        boolean good = same("mode()", real.mode(), plain.mode())
            && same("wanted()", real.wanted(), plain.wanted())
            && same("lost()", real.lost(), plain.lost())
            && same("waypoint()", real.waypoint(), plain.waypoint());
        for (int axis = 0; axis < 3; axis++) {
            good = good && same("demand(" + axis + ")", real.demand(axis), plain.demand(axis))
                && same("position(" + axis + ")", real.position(axis), plain.position(axis));
        }
        for (int k = -1; k <= 16; k++) {
            good = good && same("change(" + k + ")", real.change(k), plain.change(k));
        }
        return good;
    }
}
