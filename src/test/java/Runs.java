import java.lang.reflect.InvocationTargetException;
import java.lang.reflect.Method;
import java.util.ArrayList;
import java.util.List;
import java.util.Map;
import java.util.Set;
import java.util.TreeSet;

/**
 * Runs of calls on a new object, told in lines of the form "count(3) = WRONG". Every answer is held against its line;
 * and for every line a second object lives through the same run without that call, so that a look at both shows what
 * the call changed: nothing but what its answer lets it.
 */
final class Runs {
    private static final Map<String, Long> NAMES = Map.of("NONE", -1L, "NULL", -11L, "WRONG", -12L, "INDEX", -13L,
            "OUTSIDE", -101L, "FULL", -102L, "MAX", (long) Integer.MAX_VALUE, "MIN", (long) Integer.MIN_VALUE,
            "LONGMAX", Long.MAX_VALUE, "LONGMIN", Long.MIN_VALUE);
    private static final Map<Long, String> TELLERS = Map.of(-11L, "nulls", -12L, "wrongs", -13L, "indexes");
    private static final Set<String> LOOKS = Set.of("seen", "held", "weight", "ended", "sign", "about");
    private static final int MOST_CALLS = 512;

    /** One line of a run. */
    private static final class Call {
        final String text, name;
        final long[] given;
        final long due;

        Call(String line) {
            int equals = line.lastIndexOf('='), open = line.indexOf('('), close = line.indexOf(')');
            text = line.substring(0, equals).trim();
            name = line.substring(0, open).trim();
            due = number(line.substring(equals + 1).trim());
            String[] words = line.substring(open + 1, close).trim().split(" *, *");
            given = new long[words[0].isEmpty() ? 0 : words.length];
            for (int i = 0; i < given.length; i++) {
                given[i] = number(words[i]);
            }
        }

        long on(TideShelves x) {
            try {
                Method method = methodNamed(name);
                Object[] args = new Object[given.length];
                for (int i = 0; i < args.length; i++) {
                    args[i] = method.getParameterTypes()[i] == int.class ? (Object) Math.toIntExact(given[i]) : given[i];
                }
                return ((Number) method.invoke(x, args)).longValue();
            } catch (InvocationTargetException thrown) {
                throw new IllegalStateException(text + " threw " + thrown.getCause(), thrown);
            } catch (IllegalAccessException hidden) {
                throw new IllegalStateException(hidden);
            }
        }
    }

    private Runs() {
    }

    /** A run on a new object: its sentence, and its lines. */
    static void run(String sentence, String... lines) {
        runAfter(sentence, "", lines);
    }

    /** A run after another one, of which only the answers are looked at. */
    static void runAfter(String sentence, String past, String... lines) {
        Due.part(sentence);
        List<Call> calls = callsOf(past);
        int first = calls.size();
        calls.addAll(callsOf(String.join("\n", lines)));
        Due.is("a test without calls", calls.size() > first ? 1 : 0, 1);
        TideShelves x = new TideShelves();
        for (Call call : calls) {
            Due.is(call.text, call.on(x), call.due);
        }
        Map<String, String> before = lookAfter(calls, first);
        for (int i = first; i < calls.size(); i++) {
            Map<String, String> after = lookAfter(calls, i + 1);
            lookAtChanges(calls.get(i), before, after);
            before = after;
        }
    }

    /** The line once for each value, which stands in place of its braces. */
    static String each(String line, Object... values) {
        StringBuilder lines = new StringBuilder();
        for (Object value : values) {
            lines.append(line.replace("{}", "" + value)).append("\n");
        }
        return lines.toString();
    }

    private static Map<String, String> lookAfter(List<Call> calls, int end) {
        TideShelves x = new TideShelves();
        for (int i = 0; i < end; i++) {
            calls.get(i).on(x);
        }
        Look look = new Look(x);
        Due.is("calls on one object, at most 512", Math.max(end + look.calls(), MOST_CALLS), MOST_CALLS);
        return look.found();
    }

    private static void lookAtChanges(Call call, Map<String, String> before, Map<String, String> after) {
        Set<String> names = new TreeSet<>(before.keySet());
        names.addAll(after.keySet());
        String teller = tellerOf(call, after);
        for (String name : names) {
            String was = "" + before.get(name), is = "" + after.get(name);
            if (name.equals(teller)) {
                Due.is(call.text + " is counted under " + name, Long.parseLong(is), Long.parseLong(was) + 1);
            } else if (!was.equals(is) && !mayChange(call, name)) {
                Due.is(call.text + " changed " + name + " from " + was + " to " + is, 1, 0);
            }
        }
    }

    /** The name under which about counts the call, if it does. */
    private static String tellerOf(Call call, Map<String, String> after) {
        if (LOOKS.contains(call.name)) {
            return null;
        }
        if (call.name.equals("carry") && call.due >= 0) {
            long ended = Long.parseLong(after.get("ended"));
            return TELLERS.get(ended < -100 ? ended + 100 : ended);
        }
        return TELLERS.get(call.due);
    }

    private static boolean mayChange(Call call, String name) {
        if (LOOKS.contains(call.name) || call.due < 0) {
            return false;
        }
        switch (call.name) {
            case "shelve":
                return name.equals("filled") || isOfShelf(name, call.given[0]);
            case "mark":
                return name.equals("marks") || name.equals("sign " + call.due) || name.equals("sign " + (call.due + 1));
            case "move":
                return name.equals("filled") || isOfShelf(name, call.given[1]);
            case "read":
            case "noted":
            case "total":
                return name.equals("seen");
            case "write":
            case "give":
                return name.startsWith("cell") && name.endsWith("." + call.given[1]);
            case "take":
            case "hold":
                return name.equals("hand");
            case "note":
                return name.equals("hand") || name.startsWith("cell");
            case "carry":
                return name.equals("hand") || name.equals("ended") || name.startsWith("cell");
            case "turn":
                return name.startsWith("cell");
            default:
                return false;
        }
    }

    private static boolean isOfShelf(String name, long shelf) {
        return name.equals("count " + shelf) || name.startsWith("cell " + shelf + ".");
    }

    private static List<Call> callsOf(String lines) {
        List<Call> calls = new ArrayList<>();
        for (String line : lines.split("\n")) {
            if (!line.isBlank()) {
                calls.add(new Call(line));
            }
        }
        return calls;
    }

    private static Method methodNamed(String name) {
        for (Method method : TideShelves.class.getMethods()) {
            if (method.getDeclaringClass() == TideShelves.class && method.getName().equals(name)) {
                return method;
            }
        }
        throw new IllegalArgumentException("no call is named " + name);
    }

    private static long number(String word) {
        if (NAMES.containsKey(word)) {
            return NAMES.get(word);
        }
        if (word.endsWith("-100") && NAMES.containsKey(word.substring(0, word.length() - 4))) {
            return NAMES.get(word.substring(0, word.length() - 4)) - 100;
        }
        return word.startsWith("0x") ? Long.parseUnsignedLong(word.substring(2), 16) : Long.parseLong(word);
    }
}
