import java.lang.reflect.Field;
import java.lang.reflect.Method;
import java.lang.reflect.Modifier;
import java.nio.charset.StandardCharsets;
import java.util.ArrayList;
import java.util.List;
import java.util.Map;
import java.util.Set;
import java.util.TreeMap;
import java.util.regex.Matcher;
import java.util.regex.Pattern;

/**
 * Runs lines such as {@code list(6, 0, 0) = BEYOND} on a new ForkInn and compares the answers.
 *
 * <p>After each line that answers a finding, that asks only, or whose text has a fault, two more objects go through
 * the same calls, one with that last call and one without it; all that can be read of them must be the same, but for
 * status() of a finding. So no test has to say it again.
 *
 * <p>Other lines: {@code text 'guest 5' = 1} (feeds it and calls text()), {@code tape 'guest 5'} (feeds it),
 * {@code tell 0 8: 1 2 3} (sheet 0 of 8 bits has these numbers), {@code day 99999} (puts DAY there from outside, since
 * 512 calls can't reach it). A call without an answer must not answer a finding. What stands behind # is a comment.
 */
final class Script {
    static final int LOW = -1000001;
    private static final List<String> FINDINGS =
        List.of("BEYOND", "FULL", "KIND", "NONE", "STATE", "MISSING", "SIZE");
    private static final Set<String> QUESTIONS = Set.of("listed", "of", "ofGuest", "would", "now", "ahead", "served",
        "when", "owes", "part", "dishFor", "kindFor", "bentFor", "courses", "strike", "fits", "kinds", "odds", "as",
        "judge", "count", "status");
    private static final int MOST_CALLS = 512;
    private static final Map<String, Method> CALLS = new TreeMap<>();
    private static final Pattern CALL = Pattern.compile("(\\w+)\\(([^)]*)\\)( = (\\S+))?");
    private static final Pattern TEXT = Pattern.compile("(text|tape) '(.*)'( = (\\S+))?");
    private static final Pattern TELL = Pattern.compile("tell (\\d) (\\d+):(.*)");
    private static final Pattern DAY = Pattern.compile("day (\\d+)");

    private static int wrong = 0;
    private static int lines = 0;

    static {
        for (Method m : ForkInn.class.getDeclaredMethods()) {
            if (Modifier.isPublic(m.getModifiers())) {
                CALLS.put(m.getName(), m);
            }
        }
    }

    /** One call with its arguments, so that it can be made again on another object. */
    private record Step(String name, int... given) {
        long on(ForkInn x) {
            if (name.equals("day")) {
                putDay(x, given[0]);
                return 0;
            }
            Method m = CALLS.get(name);
            if (m == null || m.getParameterCount() != given.length) {
                throw new IllegalStateException("no such call: " + this);
            }
            Object[] values = new Object[given.length];
            for (int k = 0; k < given.length; k++) {
                values[k] = given[k];
            }
            try {
                return ((Number) m.invoke(x, values)).longValue();
            } catch (ReflectiveOperationException e) {
                throw new IllegalStateException(this + " threw " + e.getCause(), e);
            }
        }

        @Override
        public String toString() {
            StringBuilder s = new StringBuilder(name).append('(');
            for (int k = 0; k < given.length; k++) {
                s.append(k == 0 ? "" : ", ").append(given[k]);
            }
            return s.append(')').toString();
        }
    }

    private final String sentence;
    private final ForkInn inn = new ForkInn();
    private final List<Step> made = new ArrayList<>();

    private Script(String sentence) {
        this.sentence = sentence;
    }

    /** Runs the lines on a new object; the sentence is the document's, for which they stand. */
    static void says(String sentence, String... scripts) {
        Script run = new Script(sentence);
        for (String script : scripts) {
            for (String line : script.split("\n")) {
                run.line(line.replaceFirst("#.*", "").trim());
            }
        }
    }

    /** A text (with any bytes) on an object of some lines: what text() answers. */
    static void reads(String sentence, String setting, String text, long want) {
        Script run = new Script(sentence);
        for (String line : setting.split("\n")) {
            run.line(line.trim());
        }
        lines++;
        run.tape(text);
        run.text("'" + text + "'", String.valueOf(want));
    }

    static void due(String sentence, String what, long got, long want) {
        lines++;
        if (got != want) {
            complain(sentence, what, got, want);
        }
    }

    static void end() {
        System.out.println(lines + " lines, " + wrong + " wrong");
        if (wrong != 0) {
            System.exit(1);
        }
    }

    private static void complain(String sentence, String what, Object got, Object want) {
        wrong++;
        System.out.println(sentence + "\n    " + what + " answered " + got + ", due is " + want);
    }

    private void line(String line) {
        if (line.isEmpty()) {
            return;
        }
        lines++;
        Matcher call = CALL.matcher(line);
        Matcher text = TEXT.matcher(line);
        Matcher tell = TELL.matcher(line);
        Matcher day = DAY.matcher(line);
        if (call.matches()) {
            call(new Step(call.group(1), numbers(call.group(2))), call.group(4));
        } else if (text.matches()) {
            tape(text.group(2));
            if (text.group(1).equals("text")) {
                text(line, text.group(4));
            }
        } else if (tell.matches()) {
            int s = Integer.parseInt(tell.group(1));
            int[] told = numbers(tell.group(3).trim().replace(' ', ','));
            make(new Step("sheet", s, Integer.parseInt(tell.group(2)), told.length));
            for (int k = 0; k < told.length; k++) {
                make(new Step("write", s, k, told[k]));
            }
        } else if (day.matches()) {
            make(new Step("day", Integer.parseInt(day.group(1))));
        } else {
            throw new IllegalStateException("no such line: " + line);
        }
    }

    private long make(Step step) {
        long got = step.on(inn);
        made.add(step);
        if (made.size() > MOST_CALLS) {
            throw new IllegalStateException("too many calls: " + sentence);
        }
        return got;
    }

    private void tape(String text) {
        byte[] bytes = text.getBytes(StandardCharsets.ISO_8859_1);
        for (int k = 0; k < bytes.length; k += 4) {
            int n = Math.min(4, bytes.length - k);
            int number = 0;
            for (int j = 0; j < n; j++) {
                number = number << 8 | bytes[k + j] & 255;
            }
            make(new Step("feed", number, n));
        }
    }

    private void call(Step step, String want) {
        List<Step> before = List.copyOf(made);
        long got = make(step);
        int finding = finding(step, got);
        if (want == null && finding >= 0) {
            complain(sentence, "the setting's " + step, got, "no finding");
        }
        if (want != null && got != answer(want)) {
            complain(sentence, step.toString(), got, want);
        }
        if (finding >= 0 || QUESTIONS.contains(step.name)) {
            unchanged(step.toString(), before, made, finding);
        }
    }

    private void text(String line, String want) {
        List<Step> without = new ArrayList<>(made);
        without.add(new Step("wipe"));
        long got = make(new Step("text"));
        if (want == null ? got < 1 : got != answer(want)) {
            complain(sentence, line, got, want == null ? "no fault" : want);
        }
        if (got < 0) {
            unchanged(line, without, made, -1);
        }
    }

    /** Which finding an answer is, from 0 on, or -1. */
    private static int finding(Step step, long got) {
        boolean anyNumber = step.name.equals("seed") || step.name.equals("count") && step.given[0] == 6;
        return !anyNumber && got <= LOW && got > LOW - FINDINGS.size() ? (int) (LOW - got) : -1;
    }

    private static long answer(String want) {
        int finding = FINDINGS.indexOf(want);
        return finding >= 0 ? LOW - finding : number(want);
    }

    private static int number(String text) {
        switch (text) {
            case "MIN":
                return Integer.MIN_VALUE;
            case "MAX":
                return Integer.MAX_VALUE;
            default:
                return Integer.parseInt(text);
        }
    }

    private static int[] numbers(String list) {
        if (list.isBlank()) {
            return new int[0];
        }
        String[] parts = list.split(",");
        int[] values = new int[parts.length];
        for (int k = 0; k < parts.length; k++) {
            values[k] = number(parts[k].trim());
        }
        return values;
    }

    // ---- what a call left as it was

    private static ForkInn again(List<Step> steps) {
        ForkInn x = new ForkInn();
        for (Step step : steps) {
            step.on(x);
        }
        return x;
    }

    private void unchanged(String call, List<Step> without, List<Step> with, int finding) {
        for (int part = 0; part < 4; part++) {
            Reader a = new Reader(again(without), MOST_CALLS - without.size());
            Reader b = new Reader(again(with), MOST_CALLS - with.size());
            String were = a.part(part);
            String are = b.part(part);
            if (!were.equals(are)) {
                complain(sentence, call + " changed something: it", are, were);
            }
        }
        ForkInn a = again(without);
        ForkInn b = again(with);
        for (int which = -1; which < FINDINGS.size(); which++) {
            int more = finding >= 0 && (which == finding || which == -1) ? 1 : 0;
            if (b.status(which) != a.status(which) + more) {
                complain(sentence, "status(" + which + ") behind " + call, b.status(which), a.status(which) + more);
            }
        }
    }

    /** Reads all that can be read of an object; it is used up by that. */
    private static final class Reader {
        private final ForkInn x;
        private final int most;
        private final StringBuilder read = new StringBuilder();
        private int calls = 0;

        Reader(ForkInn x, int most) {
            this.x = x;
            this.most = most;
        }

        String part(int part) {
            switch (part) {
                case 0:
                    state();
                    break;
                case 1:
                    ask("count", 5);
                    ask("text");
                    state();
                    break;
                case 2:
                    if (ask("undo") >= 0) {
                        state();
                    }
                    ask("tear");
                    break;
                default:
                    sheets();
                    break;
            }
            return read.toString();
        }

        private long ask(String name, int... given) {
            calls++;
            if (calls > most) {
                throw new IllegalStateException("too many calls for an object");
            }
            long got = new Step(name, given).on(x);
            read.append(new Step(name, given)).append('=').append(got).append(' ');
            return got;
        }

        private void state() {
            for (int what = 0; what < 8; what++) {
                ask("count", what);
                ask("now", what);
            }
            for (int i = 0; i < 6; i++) {
                ask("listed", i);
            }
            for (int spot = 0; spot < 10; spot++) {
                ask("as", spot, 0);
            }
            int dishes = x.count(1);
            for (int d = 0; d < dishes; d++) {
                for (int what = 0; what < 6; what++) {
                    ask("of", d, what);
                }
            }
            int guests = x.count(2);
            for (int g = 0; g < guests; g++) {
                for (int what = 0; what < 5; what++) {
                    ask("ofGuest", g, what);
                }
            }
        }

        private void sheets() {
            if (x.count(2) == 0) {
                ask("guest", 0);
            }
            for (int s = 0; s < 4; s++) {
                for (int t = 0; t <= s; t++) {
                    ask("copy", s, 0, t, 0, 0);
                }
            }
            for (int s = 0; s < 4; s++) {
                int n = length(s);
                for (int i = 0; i < n; i += i == 2 && n > 6 ? n - 5 : 1) {
                    ask("copy", s, i, s, 0, 1);
                    number(s);
                }
                if (n > 0) {
                    ask("write", s, 0, 256 + 5);
                    number(s);
                    ask("write", s, 0, 65536 + 6);
                    number(s);
                }
            }
        }

        private void number(int s) {
            ask("load", s);
            ask("ofGuest", 0, 0);
        }

        private int length(int s) {
            int has = 0;
            for (int step = 32; step > 0; step /= 2) {
                if (has + step <= 40 && ask("copy", s, 0, s, 0, has + step) == has + step) {
                    has += step;
                }
            }
            return has;
        }
    }

    private static void putDay(ForkInn x, int day) {
        try {
            Field held = ForkInn.class.getDeclaredField("inn");
            held.setAccessible(true);
            Object inn = held.get(x);
            Field days = inn.getClass().getDeclaredField("day");
            days.setAccessible(true);
            days.setInt(inn, day);
        } catch (ReflectiveOperationException e) {
            throw new IllegalStateException("the day is held elsewhere now", e);
        }
    }
}
