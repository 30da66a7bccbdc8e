import java.lang.reflect.Method;
import java.nio.charset.StandardCharsets;
import java.util.ArrayList;
import java.util.Arrays;
import java.util.LinkedHashMap;
import java.util.List;
import java.util.Map;
import java.util.regex.Matcher;
import java.util.regex.Pattern;

/**
 * What the tests of edges share. Each test first quotes the words of the document that it holds the
 * class to; at the end words that no test has quoted, and quotes that the document has not, are wrong.
 */
final class Edges {
    /** What was done to an object ahead of the call that is looked at. */
    interface Past {
        void on(EbbWreck x);
    }

    private static final Map<String, Method> FACE = face();

    private final Map<String, String> parts = new LinkedHashMap<>();
    private final Map<String, boolean[]> quoted = new LinkedHashMap<>();
    private String words = "";
    private int askedOfWords = 1;
    private int asked = 0;
    private int wrong = 0;

    Edges(String document) {
        Matcher promise = Pattern.compile("(?s)## Promise (\\d+): \\w[^\\n]*\\n+`[^`]*`: (.*?)(?=\\n## )").matcher(document);
        while (promise.find()) {
            keep(promise.group(1), promise.group(2));
        }
        String terms = document.substring(document.indexOf("## Terms"), document.indexOf("## Promise 1:"));
        Matcher term = Pattern.compile("(?m)^([IV]+)\\. (.*)$").matcher(terms);
        while (term.find()) {
            keep(term.group(1), term.group(2));
        }
        Matcher block = Pattern.compile("(?m)^  (TOKENS|FAULTS|SLOTS)(.*)$").matcher(terms);
        while (block.find()) {
            keep(block.group(1), block.group(2));
        }
        keep("An object", document.substring(document.indexOf("An object is used"), document.indexOf("## The public face")));
    }

    private void keep(String part, String text) {
        parts.put(part, text.trim());
        quoted.put(part, new boolean[text.trim().length()]);
    }

    private static Map<String, Method> face() {
        Map<String, Method> all = new LinkedHashMap<>();
        for (Method m : EbbWreck.class.getDeclaredMethods()) {
            all.put(m.getName(), m);
        }
        return all;
    }

    /** The words of a part of the document (a promise's number, a term's) that the next answers are due by. */
    void says(String part, String quote) {
        if (askedOfWords == 0) {
            fault("nothing was asked of: " + words);
        }
        words = part + ": " + quote;
        askedOfWords = 0;
        String text = parts.getOrDefault(part, "");
        int at = text.indexOf(quote);
        if (at < 0) {
            fault("the document has no such words: " + words);
        }
        for (int from = at; from >= 0; from = text.indexOf(quote, from + 1)) {
            Arrays.fill(quoted.get(part), from, from + quote.length(), true);
        }
    }

    void says(int promise, String quote) {
        says(Integer.toString(promise), quote);
    }

    void due(String call, long got, long want) {
        asked++;
        askedOfWords++;
        if (got != want) {
            fault(call + " answered " + got + ", due is " + want + " (" + words + ")");
        }
    }

    private void fault(String text) {
        wrong++;
        System.out.println("EdgeTest: " + text);
    }

    static long call(EbbWreck x, String name, long... args) {
        Method m = FACE.get(name);
        Class<?>[] types = m.getParameterTypes();
        Object[] given = new Object[args.length];
        for (int i = 0; i < args.length; i++) {
            if (types[i] == int.class && (int) args[i] != args[i]) {
                throw new IllegalArgumentException(name + " takes no " + args[i]);
            }
            given[i] = types[i] == long.class ? (Object) args[i] : (Object) (int) args[i];
        }
        try {
            return (int) m.invoke(x, given);
        } catch (ReflectiveOperationException e) {
            throw new IllegalStateException(name + Arrays.toString(args), e);
        }
    }

    /** A call by its name, and the answer that is due. */
    void is(EbbWreck x, long want, String name, long... args) {
        due(name + Arrays.toString(args), call(x, name, args), want);
    }

    static void feed(EbbWreck x, String text) {
        byte[] bytes = text.getBytes(StandardCharsets.ISO_8859_1);
        int before = x.count(11);
        for (int at = 0; at < bytes.length; at += 20) {
            int[] five = new int[5];
            for (int i = 0; i < 20; i++) {
                five[i / 4] = five[i / 4] << 8 | (at + i < bytes.length ? bytes[at + i] & 255 : '#');
            }
            x.feed(five[0], five[1], five[2], five[3], five[4]);
        }
        x.end(before + bytes.length);
    }

    /** A new object with a SHORE. */
    EbbWreck told(String text) {
        EbbWreck x = new EbbWreck();
        tell(x, text);
        return x;
    }

    void tell(EbbWreck x, String text) {
        feed(x, text);
        if (x.shore() < 0) {
            fault("a test's own shore has fault " + x.fault(0) + " at " + x.fault(1) + ": " + text);
        }
    }

    void sound(String text, int lines) {
        EbbWreck x = new EbbWreck();
        feed(x, text);
        due("shore of [" + text + "]", x.shore(), lines);
        due("fault(0) of [" + text + "]", x.fault(0), 0);
        due("fault(1) of [" + text + "]", x.fault(1), -1);
    }

    void faulty(String text, int kind, int place) {
        EbbWreck x = new EbbWreck();
        feed(x, text);
        due("shore of [" + text + "]", x.shore(), -4);
        due("fault(0) of [" + text + "]", x.fault(0), kind);
        due("fault(1) of [" + text + "]", x.fault(1), place);
    }

    static void writeAll(EbbWreck x, int slot, int width, long... numbers) {
        x.row(slot, width, numbers.length);
        for (int i = 0; i < numbers.length; i++) {
            x.write(slot, i, numbers[i]);
        }
    }

    /** Of two objects with one past the first alone gets the call: it answers so, and later calls show no trace of it. */
    void leaves(Past past, long want, String name, long... args) {
        EbbWreck x = new EbbWreck();
        EbbWreck y = new EbbWreck();
        past.on(x);
        past.on(y);
        is(x, want, name, args);
        if (!name.equals("shore")) {
            alike(x, y, name, args, "fault", 0);
            alike(x, y, name, args, "fault", 1);
        }
        for (String[] probe : PROBES) {
            alike(x, y, name, args, probe[0], numbers(probe));
        }
    }

    private void alike(EbbWreck x, EbbWreck y, String name, long[] args, String probe, long... with) {
        long want = call(y, probe, with);
        due(probe + Arrays.toString(with) + " behind " + name + Arrays.toString(args), call(x, probe, with), want);
    }

    private static final String[][] PROBES = probes();

    private static long[] numbers(String[] probe) {
        long[] all = new long[probe.length - 1];
        for (int i = 0; i < all.length; i++) {
            all[i] = Long.parseLong(probe[i + 1]);
        }
        return all;
    }

    /** Calls that show the whole state; the later ones change it, alike for both. */
    private static String[][] probes() {
        List<String> all = new ArrayList<>();
        addProbes(all, "count %d", 13, 1);
        addProbes(all, "cell %d %d", 12, 3);
        addProbes(all, "thing %d %d", 8, 3);
        addProbes(all, "rule %d %d", 6, 4);
        addProbes(all, "sitter %d", 3, 1);
        addProbes(all, "phase %d", 4, 1);
        addProbes(all, "comes %d", 8, 1);
        addProbes(all, "whose %d", 8, 1);
        addProbes(all, "has %d", 6, 1);
        addProbes(all, "drawn 1 %d %d", 2, 2);
        addProbes(all, "fits %d", 4, 1);
        addProbes(all, "fit %d %d", 4, 2);
        for (int undone = 0; undone < 41; undone++) {
            all.add("undo");
            all.add("comes 0");
            all.add("sitter 0");
        }
        for (int group = 14; group > 0; group--) {
            all.add("paste 1 " + 4 * group + " 1 0 4");
            all.add("paste 1 0 0 0 4");
            all.add("fits 0");
            all.add("fit 0 0");
        }
        for (int k = 0; k < 3; k++) {
            all.add("back " + k);
            all.add("count 0");
            all.add("count 9");
            all.add("thing 0 0");
            all.add("comes 0");
        }
        all.add("shore");
        all.add("fault 0");
        all.add("fault 1");
        all.add("count 0");
        all.add("count 10");
        return all.stream().map(s -> s.split(" ")).toArray(String[][]::new);
    }

    private static void addProbes(List<String> all, String form, int first, int second) {
        for (int i = 0; i < first; i++) {
            for (int k = 0; k < second; k++) {
                all.add(String.format(form, i, k));
            }
        }
    }

    /** Words that were never quoted are wrong; how many answers were looked at, and how many were wrong. */
    int end() {
        says("An object", "An object");
        askedOfWords = 1;
        for (String part : parts.keySet()) {
            String text = parts.get(part);
            StringBuilder left = new StringBuilder();
            for (int i = 0; i < text.length(); i++) {
                left.append(quoted.get(part)[i] ? ' ' : text.charAt(i));
            }
            if (left.toString().matches("(?s).*\\w.*")) {
                fault("no test quotes of " + part + ": " + left.toString().trim());
            }
        }
        System.out.println("EdgeTest: " + asked + " asked, " + wrong + " wrong");
        return wrong;
    }
}
