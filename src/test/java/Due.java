import java.util.ArrayList;
import java.util.List;

/** What the tests share: it compares answers, and ends a test program with exit code 1 if one was wrong. */
final class Due {
    interface Call {
        Object on(Saddletree tree);
    }

    interface Setup {
        void on(Saddletree tree);
    }

    static final Class<IndexOutOfBoundsException> INDEX = IndexOutOfBoundsException.class;
    static final Class<IllegalArgumentException> ARGUMENT = IllegalArgumentException.class;
    static final Class<IllegalStateException> STATE = IllegalStateException.class;

    private static int wrong = 0;
    private static int checked = 0;

    private Due() {
    }

    static void same(String call, Object got, Object want) {
        checked++;
        if (!want.equals(got)) {
            wrong++;
            System.out.println(call + " answered " + got + ", due is " + want);
        }
    }

    /** The call is refused with just this exception, and the object answers on as if it had never been made. */
    static void refuses(String call, Class<?> kind, Setup setup, Call refused) {
        Saddletree with = new Saddletree();
        setup.on(with);
        same(call, outcome(with, refused), kind.getSimpleName());
        Saddletree without = new Saddletree();
        setup.on(without);
        same(call + ", and then the state,", state(with), state(without));
    }

    static String outcome(Saddletree tree, Call call) {
        try {
            return String.valueOf(call.on(tree));
        } catch (RuntimeException e) {
            return e.getClass().getSimpleName();
        }
    }

    static void end() {
        System.out.println(wrong == 0 ? checked + " answers are as due" : wrong + " answers are not as due");
        if (wrong != 0) {
            System.exit(1);
        }
    }

    /** Some 350 calls, so that a setup has 150 of the object's 512. */
    static List<String> state(Saddletree tree) {
        List<Call> calls = new ArrayList<>();
        for (int part = 0; part < 6; part++) {
            for (int what = 0; what <= 10; what++) {
                int p = part;
                int w = what;
                calls.add(t -> t.part(p, w));
            }
        }
        addRings(calls);
        addHides(calls);
        addSaddles(calls);
        addHorses(calls);
        calls.add(t -> t.hide(3));
        calls.add(t -> t.cut(0, 11, 7, 1, 1, false));
        List<String> told = new ArrayList<>();
        for (Call call : calls) {
            told.add(outcome(tree, call));
        }
        return told;
    }

    private static void addRings(List<Call> calls) {
        for (int from = 0; from < 4; from++) {
            for (int to = 0; to < 4; to++) {
                int f = from;
                int t = to;
                calls.add(tree -> tree.way(f, t, 1));
                calls.add(tree -> tree.holds(f, t));
            }
        }
    }

    private static void addHides(List<Call> calls) {
        for (int hide = 0; hide < 3; hide++) {
            int h = hide;
            for (int wide = 1; wide <= 3; wide++) {
                int w = wide;
                calls.add(t -> t.find(h, 1, w, true, 1));
                calls.add(t -> t.find(h, 12, w, false, 1));
                calls.add(t -> t.find(h, 1, w, false, 1));
            }
        }
    }

    private static void addSaddles(List<Call> calls) {
        for (int horse = 0; horse < 2; horse++) {
            for (int saddle = 0; saddle < 2; saddle++) {
                for (int section = 0; section < 7; section++) {
                    int h = horse;
                    int s = saddle;
                    int at = section;
                    calls.add(t -> t.pressure(h, s, 2999, at));
                }
            }
        }
    }

    private static void addHorses(List<Call> calls) {
        for (int horse = 0; horse < 2; horse++) {
            for (int section = 0; section < 7; section++) {
                int h = horse;
                int at = section;
                calls.add(t -> t.sore(h, at, 0));
                calls.add(t -> t.sore(h, at, 1));
                for (int by = 0; by <= 2; by++) {
                    int b = by;
                    calls.add(t -> t.share(h, at, b, 0));
                    calls.add(t -> t.share(h, at, b, 1));
                    calls.add(t -> t.share(h, at, b, 2));
                }
            }
        }
        calls.add(t -> t.rides());
    }
}
