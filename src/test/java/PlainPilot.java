import java.math.BigInteger;
import java.util.ArrayList;
import java.util.Arrays;
import java.util.List;

/** The document once more, word by word and without care for speed, for ModelTest to compare with. */
final class PlainPilot {
    private List<int[]> given = new ArrayList<>();
    private List<int[]> fence = null;
    private int ceiling;
    private List<int[]> mission = new ArrayList<>();
    private List<int[]> brought = null;
    private int uploadSize;
    private int age;
    private int repeats;
    private int[][] samples = new int[3][];
    private int[] p = new int[3];
    private int[] d = new int[3];
    private int mode = 0;
    private boolean forced = false;
    private int way = 0;
    private int lost = 1;
    private int silent = 0;
    private int ticks = 0;
    private List<Integer> changes = new ArrayList<>();

    private static boolean out(int v, int low, int high) {
        return v < low || v > high;
    }

    private static BigInteger side(int[] a, int[] b, int[] q) {
        BigInteger left = BigInteger.valueOf(b[0] - a[0]).multiply(BigInteger.valueOf(q[1] - a[1]));
        BigInteger right = BigInteger.valueOf(b[1] - a[1]).multiply(BigInteger.valueOf(q[0] - a[0]));
        return left.subtract(right);
    }

    private static boolean clear(List<int[]> corners, int[] q, int m) {
        for (int i = 0; i < corners.size(); i++) {
            int[] a = corners.get(i);
            int[] b = corners.get((i + 1) % corners.size());
            BigInteger dx = BigInteger.valueOf(b[0] - a[0]);
            BigInteger dy = BigInteger.valueOf(b[1] - a[1]);
            BigInteger least = BigInteger.valueOf(m).pow(2).multiply(dx.pow(2).add(dy.pow(2)));
            BigInteger s = side(a, b, q);
            if (s.signum() < 0 || s.pow(2).compareTo(least) < 0) {
                return false;
            }
        }
        return true;
    }

    private static boolean convex(List<int[]> corners) {
        int n = corners.size();
        for (int i = 0; i < n; i++) {
            int j = (i + 1) % n;
            if (Arrays.equals(corners.get(i), corners.get(j))) {
                return false;
            }
            for (int c = 0; c < n; c++) {
                if (c != i && c != j && side(corners.get(i), corners.get(j), corners.get(c)).signum() <= 0) {
                    return false;
                }
            }
        }
        return true;
    }

    private boolean safePoint(int x, int y) {
        return clear(fence, new int[] {x, y}, 200);
    }

    private void set(int next) {
        if (next != mode) {
            changes.add(0, 8 * ticks + next);
            mode = next;
        }
        if (mode != 5) {
            forced = false;
        }
    }

    private static int sat(int v) {
        return v > 200 ? 200 : v < -200 ? -200 : v;
    }

    boolean corner(int x, int y) {
        if (given.size() == 8 || out(x, -10000, 10000) || out(y, -10000, 10000)) {
            return false;
        }
        given.add(new int[] {x, y});
        return true;
    }

    void erase() {
        given = new ArrayList<>();
    }

    int fence(int top) {
        if (mode != 0) {
            return -1;
        } else if (given.size() < 3) {
            return -2;
        } else if (!convex(given)) {
            return -3;
        } else if (!clear(given, new int[] {0, 0}, 1000)) {
            return -4;
        } else if (out(top, 1500, 10000)) {
            return -5;
        }
        fence = given;
        ceiling = top;
        given = new ArrayList<>();
        return 0;
    }

    int upload(int n) {
        if (out(n, 1, 8)) {
            return -5;
        }
        uploadSize = n;
        brought = new ArrayList<>();
        age = 0;
        repeats = 0;
        return 0;
    }

    int item(int k, int x, int y, int z) {
        if (brought == null) {
            return -6;
        } else if (out(x, -10000, 10000) || out(y, -10000, 10000) || out(z, 500, 10000)) {
            return -5;
        } else if (k != brought.size()) {
            return brought.size();
        }
        brought.add(new int[] {x, y, z});
        age = 0;
        repeats = 0;
        if (brought.size() < uploadSize) {
            return brought.size();
        }
        mission = brought;
        brought = null;
        way = 0;
        return 100;
    }

    int wanted() {
        return brought == null ? -6 : brought.size();
    }

    boolean sample(int k, int x, int y, int z) {
        if (out(k, 0, 2) || out(x, -20000, 20000) || out(y, -20000, 20000) || out(z, -2000, 20000)) {
            return false;
        }
        samples[k] = new int[] {x, y, z};
        return true;
    }

    void beat() {
        silent = 0;
    }

    int arm() {
        if (mode != 0) {
            return -1;
        } else if (fence == null) {
            return -7;
        } else if (lost > 0 || !safePoint(p[0], p[1])) {
            return -8;
        }
        set(1);
        return 0;
    }

    int command(int wish) {
        if (out(wish, 2, 5)) {
            return -5;
        } else if (mode == 0) {
            return -9;
        } else if (forced || mode == 1 && wish == 2) {
            return -10;
        } else if (wish == 2 && mission.isEmpty()) {
            return -11;
        }
        set(wish);
        return 0;
    }

    int tick(int battery) {
        if (out(battery, 0, 100)) {
            return -5;
        }
        ticks++;
        step1();
        step2();
        silent++;
        if (mode == 0) {
            d = new int[3];
            return mode;
        }
        step5(battery);
        if (lost == 0) {
            step6();
        }
        step7();
        if (lost == 0 && mode != 0) {
            step8();
        }
        return mode;
    }

    private void step1() {
        if (brought != null && ++age == 10) {
            age = 0;
            if (++repeats == 3) {
                brought = null;
            }
        }
    }

    private void step2() {
        List<int[]> fresh = new ArrayList<>();
        for (int[] sample : samples) {
            if (sample != null) {
                fresh.add(sample);
            }
        }
        samples = new int[3][];
        if (fresh.size() < 2) {
            lost++;
            return;
        }
        lost = 0;
        for (int a = 0; a < 3; a++) {
            int axis = a;
            int[] sorted = fresh.stream().mapToInt(s -> s[axis]).sorted().toArray();
            p[a] = sorted.length == 3 ? sorted[1] : (int) Math.floor((sorted[0] + sorted[1]) / 2.0);
        }
    }

    private void step5(int battery) {
        if (battery < 10 || lost >= 5) {
            set(5);
            forced = true;
        } else if (battery < 25 || silent >= 20) {
            if (mode != 4 && mode != 5) {
                set(4);
            }
        }
    }

    private void step6() {
        switch (mode) {
            case 1 -> {
                if (p[2] >= 1000) {
                    set(mission.isEmpty() ? 3 : 2);
                }
            }
            case 2 -> {
                int[] goal = mission.get(way);
                if (Math.abs(goal[0] - p[0]) <= 100 && Math.abs(goal[1] - p[1]) <= 100
                        && Math.abs(goal[2] - p[2]) <= 100 && ++way == mission.size()) {
                    way = 0;
                    set(4);
                }
            }
            case 4 -> {
                if (Math.abs(p[0]) <= 100 && Math.abs(p[1]) <= 100) {
                    set(5);
                }
            }
            case 5 -> {
                if (p[2] <= 20) {
                    set(0);
                }
            }
            default -> { }
        }
    }

    private void step7() {
        d = switch (mode) {
            case 1 -> new int[] {0, 0, 100};
            case 2 -> {
                int[] goal = mission.get(way);
                yield new int[] {sat(goal[0] - p[0]), sat(goal[1] - p[1]), sat(goal[2] - p[2])};
            }
            case 4 -> new int[] {sat(-p[0]), sat(-p[1]), 0};
            case 5 -> new int[] {0, 0, -50};
            default -> new int[3];
        };
        if (lost > 0) {
            d = new int[] {0, 0, mode == 5 ? d[2] : 0};
        }
    }

    private void step8() {
        if (!safePoint(p[0], p[1])) {
            d[0] = sat(-p[0]);
            d[1] = sat(-p[1]);
        } else {
            int n = 4;
            while (!safePoint(p[0] + (int) (d[0] * n / 4.0), p[1] + (int) (d[1] * n / 4.0))) {
                n--;
            }
            d[0] = (int) (d[0] * n / 4.0);
            d[1] = (int) (d[1] * n / 4.0);
        }
        if (p[2] + d[2] > ceiling - 200) {
            d[2] = Math.max(-200, ceiling - 200 - p[2]);
        }
    }

    int mode() {
        return mode;
    }

    int demand(int axis) {
        return out(axis, 0, 2) ? 0 : d[axis];
    }

    int position(int axis) {
        return out(axis, 0, 2) ? 0 : p[axis];
    }

    int lost() {
        return lost;
    }

    int waypoint() {
        return mission.isEmpty() ? -11 : way;
    }

    boolean safe(int x, int y) {
        return fence != null && !out(x, -20000, 20000) && !out(y, -20000, 20000) && safePoint(x, y);
    }

    int change(int k) {
        return out(k, 0, 15) || k >= changes.size() ? -1 : changes.get(k);
    }
}
