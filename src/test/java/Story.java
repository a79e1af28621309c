import java.lang.reflect.InvocationTargetException;
import java.lang.reflect.Method;
import java.util.ArrayList;
import java.util.List;

/**
 * A run of calls, told as texts, that can be made again and again on new objects: so all that an
 * object knows can be asked, even where the asking spoils it, and none is used beyond its 512 calls.
 */
final class Story {
    private static final int MOST_CALLS = 512;
    private static final int FIRST_FINDING = -1000000001;

    private final List<Call> calls;
    private List<String> known;
    private List<Long> findings;

    private record Call(Method method, Object[] arguments) {
        static Call of(String text) {
            int open = text.indexOf('(');
            Method method = named(text.substring(0, open));
            String inside = text.substring(open + 1, text.length() - 1);
            String[] parts = inside.isBlank() ? new String[0] : inside.split(",");
            Class<?>[] types = method.getParameterTypes();
            if (types.length != parts.length) {
                throw new IllegalArgumentException(text);
            }
            Object[] arguments = new Object[parts.length];
            for (int i = 0; i < parts.length; i++) {
                String part = parts[i].trim();
                arguments[i] = types[i] == long.class ? (Object) Long.valueOf(part) : (Object) Integer.valueOf(part);
            }
            return new Call(method, arguments);
        }

        private static Method named(String name) {
            for (Method m : TrueMaps.class.getMethods()) {
                if (m.getName().equals(name) && m.getDeclaringClass() == TrueMaps.class) {
                    return m;
                }
            }
            throw new IllegalArgumentException(name);
        }

        long on(TrueMaps x) {
            try {
                return ((Number) method.invoke(x, arguments)).longValue();
            } catch (IllegalAccessException | InvocationTargetException e) {
                throw new IllegalStateException(method.getName(), e);
            }
        }
    }

    Story(String... calls) {
        this(List.of(), calls);
    }

    private Story(List<Call> before, String... more) {
        calls = new ArrayList<>(before);
        for (String call : more) {
            calls.add(Call.of(call));
        }
    }

    Story then(String... more) {
        return new Story(calls, more);
    }

    Story thenTimes(int times, String... more) {
        Story longer = this;
        for (int i = 0; i < times; i++) {
            longer = longer.then(more);
        }
        return longer;
    }

    /** The bytes of a text come to the tape. */
    Story fed(String text) {
        List<String> feeds = new ArrayList<>();
        for (int i = 0; i < text.length(); i += 4) {
            int n = Math.min(4, text.length() - i);
            int bytes = 0;
            for (int k = 0; k < n; k++) {
                bytes = bytes << 8 | text.charAt(i + k);
            }
            feeds.add("feed(" + bytes + ", " + n + ")");
        }
        return then(feeds.toArray(new String[0]));
    }

    /** What the last call answers. */
    long answer() {
        TrueMaps x = told(0, calls.size() - 1);
        return calls.get(calls.size() - 1).on(x);
    }

    /** What one more call answers. */
    long asked(String call) {
        return then(call).answer();
    }

    private TrueMaps told(int callsToCome) {
        return told(callsToCome, calls.size());
    }

    private TrueMaps told(int callsToCome, int until) {
        if (calls.size() + callsToCome > MOST_CALLS) {
            throw new IllegalStateException("a story of " + calls.size() + " calls is too long for this");
        }
        TrueMaps x = new TrueMaps();
        for (int i = 0; i < until; i++) {
            calls.get(i).on(x);
        }
        return x;
    }

    /** All but status() that an object knows after this story, line by line. */
    List<String> known() {
        if (known == null) {
            List<String> lines = new ArrayList<>();
            lines.addAll(present());
            for (int s = 0; s < 4; s++) {
                tellSheet(s, lines);
            }
            tellTape(lines);
            tellKept(lines);
            known = lines;
        }
        return known;
    }

    /** status(-1) to status(6). */
    List<Long> findings() {
        if (findings == null) {
            TrueMaps x = told(8);
            List<Long> counts = new ArrayList<>();
            for (int which = -1; which <= 6; which++) {
                counts.add((long) x.status(which));
            }
            findings = counts;
        }
        return findings;
    }

    /** What section 1 of the document tells, and how many bytes the tape has. */
    List<String> present() {
        List<String> lines = new ArrayList<>();
        tellPresent(told(130), "", lines);
        lines.add("tape " + told(1).count(1));
        return lines;
    }

    private static void tellPresent(TrueMaps x, String when, List<String> lines) {
        for (int c = 0; c < 48; c++) {
            lines.add(when + "land of " + c + ": " + x.cell(c, 0));
            lines.add(when + "map of " + c + ": " + x.cell(c, 1));
        }
        lines.add(when + "wrong: " + x.cells(0));
        int menders = x.count(0);
        lines.add(when + "menders: " + menders);
        for (int m = 0; m < menders; m++) {
            for (int what = 0; what < 4; what++) {
                lines.add(when + "of(" + m + ", " + what + "): " + x.of(m, what));
            }
        }
        lines.add(when + "year: " + x.now(0));
        lines.add(when + "income: " + x.now(4));
    }

    private void tellSheet(int s, List<String> lines) {
        TrueMaps x = told(41);
        for (int i = 0; i <= 40; i++) {
            long number = x.write(s, i, 0);
            lines.add("number " + i + " of sheet " + s + ": " + number);
            if (number == FIRST_FINDING || number == -1000000006) {
                break;
            }
        }
        // A sheet without numbers still has its bits; only copy() can tell them.
        for (int bits : new int[] {8, 16, 64}) {
            TrueMaps y = told(2);
            int other = (s + 1) % 4;
            y.sheet(other, bits, 0);
            lines.add("sheet " + s + " is like " + bits + " bits: " + y.copy(s, 0, other, 0, 0));
        }
    }

    private void tellTape(List<String> lines) {
        TrueMaps x = told(130);
        lines.add("tape read: " + x.map());
        tellPresent(x, "tape read, ", lines);
        TrueMaps y = told(140);
        for (char c : ";income 13".toCharArray()) {
            y.feed(c, 1);
        }
        lines.add("longer tape read: " + y.map());
        tellPresent(y, "longer tape read, ", lines);
    }

    private void tellKept(List<String> lines) {
        TrueMaps x = told(130);
        lines.add("undone: " + x.undo());
        tellPresent(x, "undone, ", lines);
        lines.add("torn: " + told(1).tear());
    }
}
