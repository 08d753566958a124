import java.lang.reflect.Method;
import java.util.Arrays;
import java.util.HashMap;
import java.util.List;
import java.util.Map;
import java.util.regex.Matcher;
import java.util.regex.Pattern;

/**
 * A run of calls on a new object, told by lines:
 * a call with what is due: "row(0, 60) -> 60", "at(0, 59) -> 1 asks 0", "eat() -> 0 tells 20/3";
 * one that is refused, or NONE, which must change nothing else: "row(0, 61) -> BAD", "at(0, 60) -> BEYOND";
 * "TABLE 'p9 e1' -> 1" puts that into TEXT 0 and makes it the TABLE; "ROW 3: 2 0 1" makes a ROW;
 * "FAULT 'p 9' -> 1" holds for an object of its own; "NEW" goes on with a new one.
 */
final class Run {
    private static final List<String> FINDINGS = List.of("", "NOTHING", "BEYOND", "UNLIKE", "NOUGHT", "SIZE");
    private static final Map<String, Long> REFUSED = Map.of("BAD", -1L, "STATE", -4L, "NONE", -9L);
    private static final Pattern CALL =
            Pattern.compile("(\\w+)\\(([^)]*)\\) -> (\\S+)( asks (\\S+))?( tells (\\S+)/(\\S+))?");
    private static final Pattern TEXT = Pattern.compile("(TABLE|FAULT) '(.*)' -> (\\S+)", Pattern.DOTALL);
    private static final Pattern ROW = Pattern.compile("ROW (\\d): (.*)");
    private static final int MOST_CALLS = 512;
    private static final Map<String, Method> METHODS = new HashMap<>();

    static {
        for (Method m : ThirdLeft.class.getMethods()) {
            METHODS.put(m.getName(), m);
        }
    }

    private final Due due;
    private ThirdLeft x = new ThirdLeft();
    private int calls;
    /** What stood behind the latest refused call, null behind any other one. */
    private long[] stood;

    Run(Due due) {
        this.due = due;
    }

    Run of(String... lines) {
        for (String line : lines) {
            step(line);
        }
        return this;
    }

    Run is(String what, long got, long want) {
        due.is(what, got, want);
        return this;
    }

    private void step(String line) {
        Matcher call = CALL.matcher(line);
        Matcher text = TEXT.matcher(line);
        Matcher row = ROW.matcher(line);
        if (line.equals("NEW")) {
            renew();
        } else if (row.matches()) {
            fill(Integer.parseInt(row.group(1)), row.group(2).isEmpty() ? new String[0] : row.group(2).split(" "));
        } else if (text.matches() && text.group(1).equals("TABLE")) {
            write(text.group(2));
            hold(line, "table", new Object[] {0}, text.group(3));
        } else if (text.matches()) {
            fault(line, text.group(2), text.group(3));
        } else if (call.matches()) {
            hold(line, call.group(1), arguments(call.group(2)), call.group(3));
            told(line, call);
        } else {
            throw new IllegalArgumentException(line);
        }
    }

    private void renew() {
        x = new ThirdLeft();
        calls = 0;
        stood = null;
    }

    private void fill(int r, String... values) {
        answer("row", r, values.length);
        for (int i = 0; i < values.length; i++) {
            answer("lay", r, i, (int) number(values[i]));
        }
    }

    private void write(String text) {
        answer("text", 0, text.length());
        for (int i = 0; i < text.length(); i++) {
            answer("put", 0, i, (int) text.charAt(i));
        }
    }

    private void fault(String line, String text, String place) {
        renew();
        write(text);
        hold(line, "fault", new Object[] {0}, place);
        if (!place.equals("NONE")) {
            hold(line + ", table(0)", "table", new Object[] {0}, "STATE");
        }
        renew();
    }

    private void hold(String line, String name, Object[] arguments, String want) {
        if (REFUSED.containsKey(want)) {
            refused(line, name, arguments, REFUSED.get(want), 0);
        } else if (FINDINGS.contains(want)) {
            refused(line, name, arguments, ThirdLeft.FINDING, FINDINGS.indexOf(want));
        } else {
            due.is(line, answer(name, arguments), number(want));
        }
    }

    private void refused(String line, String name, Object[] arguments, long want, int finding) {
        long[] before = stood == null ? stands() : stood;
        due.is(line, answer(name, arguments), want);
        long[] behind = stands();
        due.stays(line, before, behind, finding);
        stood = behind;
    }

    private long[] stands() {
        long[] stands = Due.stands(x);
        count(stands.length);
        return stands;
    }

    private void told(String line, Matcher call) {
        if (call.group(5) != null) {
            due.is(line + ", asked()", answer("asked"), number(call.group(5)));
        }
        if (call.group(7) != null) {
            due.is(line + ", upper()", answer("upper"), number(call.group(7)));
            due.is(line + ", lower()", answer("lower"), number(call.group(8)));
        }
    }

    private static Object[] arguments(String list) {
        String[] words = list.isEmpty() ? new String[0] : list.split(", ");
        Object[] arguments = new Object[words.length];
        for (int i = 0; i < words.length; i++) {
            arguments[i] = (int) number(words[i]);
        }
        return arguments;
    }

    private static long number(String word) {
        return switch (word) {
            case "MAX" -> Integer.MAX_VALUE;
            case "MIN" -> Integer.MIN_VALUE;
            default -> Long.parseLong(word);
        };
    }

    private void count(int more) {
        calls += more;
        if (calls > MOST_CALLS) {
            throw new IllegalStateException("an object is used for " + MOST_CALLS + " calls at most");
        }
    }

    private long answer(String name, Object... arguments) {
        count(1);
        stood = null;
        try {
            return ((Number) METHODS.get(name).invoke(x, arguments)).longValue();
        } catch (ReflectiveOperationException e) {
            throw new IllegalStateException(name + Arrays.toString(arguments), e);
        }
    }
}
