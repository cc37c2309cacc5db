import java.util.Arrays;
import java.util.HashMap;
import java.util.Map;
import java.util.Random;

/** Long runs of drawn calls, right and wrong ones, answered as the plain model answers them. */
public final class RandomRunsTest {
    private static final int RUNS = 1500;
    private static final int CALLS = 512;
    private static final int STRAPS = 22;
    private static final int[] ODD = {-1, -2, 99, 10000, Integer.MIN_VALUE, Integer.MAX_VALUE, Integer.MIN_VALUE + 1};

    private final Random random;
    private final int theme;
    private final Saddletree tree = new Saddletree();
    private final PlainModel model = new PlainModel();
    private static final Map<String, Integer> SEEN = new HashMap<>();

    private RandomRunsTest(int seed) {
        random = new Random(seed);
        theme = seed % 3;
    }

    public static void main(String[] args) {
        for (int seed = 0; seed < RUNS; seed++) {
            new RandomRunsTest(seed).run(seed);
        }
        for (int call = 0; call < 30; call++) {
            int answers = SEEN.getOrDefault(call + " answers", 0);
            Due.same("call " + call + " answered often enough", answers > 500, true);
        }
        Due.end();
    }

    private void run(int seed) {
        for (int i = 0; i < CALLS; i++) {
            int[] given = theme == 1 ? strapCall(i) : new int[0];
            int call = given.length > 0 ? given[0] : draw();
            int[] a = given.length > 0 ? Arrays.copyOfRange(given, 1, given.length) : arguments(call);
            String got = answer(call, a, true);
            String due = answer(call, a, false);
            SEEN.merge(call + (due.endsWith("Exception") ? " refuses" : " answers"), 1, Integer::sum);
            if (!got.equals(due)) {
                Due.same("run " + seed + ", call " + i + ": " + call + Arrays.toString(a), got, due);
                return;
            }
        }
        Due.same("run " + seed, "as due", "as due");
    }

    /** At first a run of straps makes a net of them, without which few pulls would find a way. */
    private int[] strapCall(int i) {
        int part = (i - 3) / 3;
        if (i < 3) {
            return new int[] {0, 9 - i};
        }
        if (part >= STRAPS) {
            return new int[0];
        }
        if (i % 3 == 0) {
            return new int[] {2, part % 3, part / 3 % 6 * 2, part / 18, 2, 1, 1};
        }
        return i % 3 == 1
                ? new int[] {6, part, 3 + random.nextInt(random.nextBoolean() ? 3 : 2)}
                : new int[] {9, part, random.nextInt(7), random.nextInt(7), 0};
    }

    private int draw() {
        if (random.nextInt(10) == 0) {
            return random.nextInt(30);
        }
        int[] leather = {0, 1, 2, 2, 2, 3, 4, 4, 5, 6, 6, 6, 7, 8, 9, 16, 16};
        int[] straps = {0, 2, 2, 2, 6, 6, 6, 9, 9, 9, 9, 9, 9, 9, 10, 10, 4, 9, 9, 9, 9, 10, 11, 11, 12, 12, 13, 13, 14, 14, 15, 8, 8, 5, 16};
        int[] saddles = {17, 18, 19, 17, 18, 19, 20, 21, 22, 23, 24, 24, 24, 25, 26, 27, 28};
        int[] from = theme == 0 ? leather : theme == 1 ? straps : saddles;
        return from[random.nextInt(from.length)];
    }

    private int in(int least, int most) {
        int odd = random.nextInt(400);
        return odd < ODD.length ? ODD[odd] : odd < 10 ? most + 1 : odd < 13 ? least - 1
                : least + random.nextInt(most - least + 1);
    }

    private int few(int most) {
        return random.nextInt(3) == 0 ? in(0, most) : in(0, Math.min(most, 2));
    }

    private int size(int most) {
        return random.nextInt(12) == 0 ? in(1, most) : in(1, theme == 1 ? 3 : 4);
    }

    private int flag() {
        return random.nextInt(theme == 1 ? 10 : 2) == 0 ? 0 : 1;
    }

    private int partNumber() {
        return random.nextInt(15) == 0 ? in(0, 39) : in(0, random.nextInt(2) == 0 ? 5 : 14);
    }

    private int ring() {
        return random.nextInt(2) == 0 ? in(0, 7) : in(0, 4);
    }

    private int force() {
        return random.nextInt(6) == 0 ? in(1, 9999) : in(1, random.nextInt(3) == 0 ? 300 : 90);
    }

    private int weight() {
        return random.nextInt(3) == 0 ? in(1, 3000) : in(1, 400);
    }

    private int height() {
        return random.nextInt(3) == 0 ? in(-50, 50) : in(-12, 12);
    }

    private int[] arguments(int call) {
        switch (call) {
            case 0: return new int[] {in(2, 9)};
            case 1: return new int[] {few(7), in(0, 11), in(0, 7)};
            case 2: return new int[] {few(7), in(0, 11), in(0, 7), size(12), size(8), flag()};
            case 3: return new int[] {few(7), size(12), size(8), flag(), in(1, 9)};
            case 4: return new int[] {partNumber(), in(1, 8)};
            case 5: return new int[] {partNumber(), partNumber()};
            case 6: return new int[] {partNumber(), random.nextInt(3) == 0 ? in(3, 45) : in(3, 9)};
            case 7: return new int[] {partNumber(), partNumber()};
            case 8: return new int[] {partNumber(), in(0, 10)};
            case 9: return new int[] {partNumber(), ring(), ring(), random.nextInt(3)};
            case 10: return new int[] {partNumber()};
            case 11: return new int[] {partNumber(), ring(), ring(), force()};
            case 12: return new int[] {ring(), ring(), in(0, 4)};
            case 13: return new int[] {ring(), ring(), force()};
            case 14: return new int[] {ring(), ring()};
            case 15: return new int[] {partNumber()};
            case 16: return new int[] {partNumber(), partNumber(), in(1, 12), in(1, 50)};
            case 17: return new int[] {few(5), in(0, 6), height()};
            case 18: return new int[] {few(5), in(0, 6), height()};
            case 19: return new int[] {few(5), in(0, 6), in(0, 20)};
            case 20: return new int[] {few(5), few(5), weight()};
            case 21: return new int[] {few(5), few(5), weight()};
            case 22: return new int[] {few(5), few(5), weight(), in(0, 6)};
            case 23: return new int[] {few(5), few(5), weight()};
            case 24: return new int[] {few(5), few(5), in(0, 3), random.nextInt(3) == 0 ? in(1, 1000) : in(1, 150),
                    in(1, 3), in(1, 10)};
            case 25: return new int[] {in(1, 100)};
            case 26: return new int[] {few(5), in(0, 6), in(0, 2)};
            case 27: return new int[] {few(5), in(0, 6), in(0, 2), in(0, 5)};
            case 28: return new int[] {few(5), in(0, 6), in(0, 2)};
            default: return new int[0];
        }
    }

    private String answer(int call, int[] a, boolean ofTheClass) {
        try {
            return String.valueOf(ofTheClass ? ask(call, a) : askModel(call, a));
        } catch (IndexOutOfBoundsException | IllegalArgumentException | IllegalStateException e) {
            return e.getClass().getSimpleName();
        }
    }

    private int ask(int call, int[] a) {
        Saddletree t = tree;
        switch (call) {
            case 0: return t.hide(a[0]);
            case 1: return t.fault(a[0], a[1], a[2]);
            case 2: return t.cut(a[0], a[1], a[2], a[3], a[4], a[5] == 1);
            case 3: return t.find(a[0], a[1], a[2], a[3] == 1, a[4]);
            case 4: return t.skive(a[0], a[1]);
            case 5: return t.match(a[0], a[1]) ? 1 : 0;
            case 6: return t.pierce(a[0], a[1]);
            case 7: return t.match(a[1], a[0]) ? 1 : 0;
            case 8: return t.part(a[0], a[1]);
            case 9: return t.buckle(a[0], a[1], a[2], a[3]);
            case 10: return t.unbuckle(a[0]);
            case 11: return t.bears(a[0], a[1], a[2], a[3]);
            case 12: return t.way(a[0], a[1], a[2]);
            case 13: return t.pull(a[0], a[1], a[2]);
            case 14: return t.holds(a[0], a[1]);
            case 15: return t.oil(a[0]);
            case 16: return t.sew(a[0], a[1], a[2], a[3]);
            case 17: return t.back(a[0], a[1], a[2]);
            case 18: return t.tree(a[0], a[1], a[2]);
            case 19: return t.flock(a[0], a[1], a[2]);
            case 20: return t.sinks(a[0], a[1], a[2]);
            case 21: return t.sinksAnew(a[0], a[1], a[2]);
            case 22: return t.pressure(a[0], a[1], a[2], a[3]);
            case 23: return t.bridges(a[0], a[1], a[2]);
            case 24: return t.ride(a[0], a[1], a[2], a[3], a[4], a[5]);
            case 25: return t.rest(a[0]);
            case 26: return t.sore(a[0], a[1], a[2]);
            case 27: return t.share(a[0], a[1], a[2], a[3]);
            case 28: return t.cause(a[0], a[1], a[2]);
            default: return t.rides();
        }
    }

    private int askModel(int call, int[] a) {
        PlainModel t = model;
        switch (call) {
            case 0: return t.hide(a[0]);
            case 1: return t.fault(a[0], a[1], a[2]);
            case 2: return t.cut(a[0], a[1], a[2], a[3], a[4], a[5] == 1);
            case 3: return t.find(a[0], a[1], a[2], a[3] == 1, a[4]);
            case 4: return t.skive(a[0], a[1]);
            case 5: return t.match(a[0], a[1]);
            case 6: return t.pierce(a[0], a[1]);
            case 7: return t.match(a[1], a[0]);
            case 8: return t.part(a[0], a[1]);
            case 9: return t.buckle(a[0], a[1], a[2], a[3]);
            case 10: return t.unbuckle(a[0]);
            case 11: return t.bears(a[0], a[1], a[2], a[3]);
            case 12: return t.way(a[0], a[1], a[2]);
            case 13: return t.pull(a[0], a[1], a[2]);
            case 14: return t.holds(a[0], a[1]);
            case 15: return t.oil(a[0]);
            case 16: return t.sew(a[0], a[1], a[2], a[3]);
            case 17: return t.back(a[0], a[1], a[2]);
            case 18: return t.tree(a[0], a[1], a[2]);
            case 19: return t.flock(a[0], a[1], a[2]);
            case 20: case 21: return t.sinks(a[0], a[1], a[2]);
            case 22: return t.pressure(a[0], a[1], a[2], a[3]);
            case 23: return t.bridges(a[0], a[1], a[2]);
            case 24: return t.ride(a[0], a[1], a[2], a[3], a[4], a[5]);
            case 25: return t.rest(a[0]);
            case 26: return t.sore(a[0], a[1], a[2]);
            case 27: return t.share(a[0], a[1], a[2], a[3]);
            case 28: return t.cause(a[0], a[1], a[2]);
            default: return t.rides();
        }
    }
}
