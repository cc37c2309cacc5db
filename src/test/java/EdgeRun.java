import java.lang.reflect.InvocationTargetException;
import java.lang.reflect.Method;
import java.util.ArrayList;
import java.util.List;
import java.util.regex.Matcher;
import java.util.regex.Pattern;

/** One object of a test of an edge: its calls as they are written there, and what is due of each. */
final class EdgeRun {
    private static final Pattern LINE =
            Pattern.compile("(?:(\\d+)\\.\\.(\\d+): )?(\\w+)\\(([^()]*)\\)(?: = (\\S+)| ! (\\w+))?");
    // what is left of the object's 512 calls when its state has been asked
    private static final int MOST_CALLS = 150;

    private final Saddletree tree = new Saddletree();
    private final List<String> answered = new ArrayList<>();
    private int refused = 0;

    boolean hasCalls() {
        return !answered.isEmpty() || refused > 0;
    }

    /** "name(a, b) = answer", or "! exception", or neither: it answers; "0..7: " ahead of it makes it for each $. */
    void line(String where, String line) {
        for (String each : line.split(";")) {
            Matcher call = LINE.matcher(each.strip());
            Due.same(where + "can be read: " + each, call.matches(), true);
            if (call.matches()) {
                int first = call.group(1) == null ? 0 : Integer.parseInt(call.group(1));
                int last = call.group(2) == null ? first : Integer.parseInt(call.group(2));
                for (int i = first; i <= last; i++) {
                    make(where, call, String.valueOf(i));
                }
            }
        }
    }

    private void make(String where, Matcher call, String each) {
        String made = call.group(3) + "(" + call.group(4).replace("$", each) + ")";
        String got = answer(tree, made);
        if (call.group(6) != null) {
            refused++;
            Due.same(where + made, got, call.group(6) + "Exception");
            return;
        }
        answered.add(made);
        String due = call.group(5) == null ? got : call.group(5).replace("$", each);
        Due.same(where + made, got, due.equals("NONE") ? "-1" : due);
        Due.same(where + made + " is no refusal", got.endsWith("Exception"), false);
    }

    /** What was refused has changed nothing: without it the object answers the same. */
    void end(String where) {
        Due.same(where + "has few enough calls", answered.size() + refused <= MOST_CALLS, true);
        if (refused > 0) {
            Saddletree without = new Saddletree();
            for (String call : answered) {
                answer(without, call);
            }
            Due.same(where + "the state behind what is refused", Due.state(tree), Due.state(without));
        }
    }

    private static String answer(Saddletree tree, String call) {
        int open = call.indexOf('(');
        String inside = call.substring(open + 1, call.length() - 1).strip();
        String[] words = inside.isEmpty() ? new String[0] : inside.split("\\s*,\\s*");
        for (Method method : Saddletree.class.getMethods()) {
            if (method.getName().equals(call.substring(0, open)) && method.getParameterCount() == words.length) {
                return answer(tree, method, words);
            }
        }
        return "no such call, but an Exception";
    }

    private static String answer(Saddletree tree, Method method, String[] words) {
        Object[] arguments = new Object[words.length];
        for (int i = 0; i < words.length; i++) {
            arguments[i] = value(words[i], method.getParameterTypes()[i]);
        }
        try {
            return String.valueOf(method.invoke(tree, arguments));
        } catch (InvocationTargetException e) {
            return e.getCause().getClass().getSimpleName();
        } catch (IllegalAccessException e) {
            return "no call of the face, but an Exception";
        }
    }

    private static Object value(String word, Class<?> type) {
        if (type == boolean.class) {
            return word.equals("strap");
        }
        switch (word) {
            case "BY_SADDLE": return Saddletree.BY_SADDLE;
            case "BY_RIDER": return Saddletree.BY_RIDER;
            case "BY_GAIT": return Saddletree.BY_GAIT;
            case "MIN": return Integer.MIN_VALUE;
            case "MAX": return Integer.MAX_VALUE;
            default: return Integer.parseInt(word);
        }
    }
}
