import java.lang.reflect.InvocationTargetException;
import java.lang.reflect.Method;
import java.nio.charset.StandardCharsets;
import java.util.ArrayList;
import java.util.Arrays;
import java.util.Comparator;
import java.util.List;
import java.util.Map;
import java.util.Random;
import java.util.Set;
import java.util.TreeMap;
import java.util.TreeSet;

/** Random shores and runs of calls, held against NaiveWreck: every answer must be alike. */
public final class ModelTest {
    private static final int RUNS = 80;
    private static final int CALLS = 512;
    private static final List<Method> FACE = face();

    private final Random random;
    private final int run;
    private final EbbWreck wreck = new EbbWreck();
    private final NaiveWreck naive = new NaiveWreck();
    private final List<String> log = new ArrayList<>();
    private final Map<String, Set<Object>> answers;
    private int calls = 0;

    private ModelTest(int run, Map<String, Set<Object>> answers) {
        this.run = run;
        this.answers = answers;
        this.random = new Random(7919L * run + 13);
    }

    private static List<Method> face() {
        List<Method> all = new ArrayList<>();
        for (Method m : EbbWreck.class.getDeclaredMethods()) {
            if (java.lang.reflect.Modifier.isPublic(m.getModifiers())) {
                all.add(m);
            }
        }
        all.sort(Comparator.comparing(Method::getName));
        return all;
    }

    public static void main(String[] args) throws Exception {
        Map<String, Set<Object>> answers = new TreeMap<>();
        int runs = args.length > 0 ? Integer.parseInt(args[0]) : RUNS;
        for (int run = 1; run <= runs; run++) {
            if (!new ModelTest(run, answers).go()) {
                System.exit(1);
            }
        }
        for (Method m : FACE) {
            int unlike = answers.getOrDefault(m.getName(), Set.of()).size();
            if (unlike < 2) {
                System.out.println("ModelTest had only " + unlike + " unlike answers of " + m.getName());
                System.exit(1);
            }
        }
        System.out.println("ModelTest: " + runs + " runs alike");
    }

    private boolean go() throws Exception {
        while (calls < CALLS) {
            int dice = random.nextInt(200);
            boolean alike;
            if (calls == 0 && random.nextInt(8) != 0 || dice < 2) {
                alike = tell();
            } else if (dice < 5) {
                alike = layFloats();
            } else {
                Method method = FACE.get(random.nextInt(FACE.size()));
                if (method.getName().equals("anew") && random.nextInt(3) != 0) {
                    continue;
                }
                alike = call(method.getName(), argsFor(method));
            }
            if (!alike) {
                return false;
            }
        }
        return true;
    }

    private boolean call(String name, Object... args) throws Exception {
        calls++;
        Class<?>[] types = new Class<?>[args.length];
        for (int i = 0; i < args.length; i++) {
            types[i] = args[i] instanceof Long ? long.class : int.class;
        }
        Method theirs = NaiveWreck.class.getDeclaredMethod(name, types);
        Method ours = EbbWreck.class.getDeclaredMethod(name, types);
        String told = name + Arrays.toString(args);
        Object due = theirs.invoke(naive, args);
        Object got;
        try {
            got = ours.invoke(wreck, args);
        } catch (InvocationTargetException e) {
            got = e.getCause();
        }
        log.add(told + " = " + due);
        answers.computeIfAbsent(name, n -> new TreeSet<>()).add(due);
        if (!due.equals(got)) {
            System.out.println("run " + run + ": " + told + " answered " + got + ", due is " + due);
            for (String s : log) {
                System.out.println("  " + s);
            }
            return false;
        }
        return true;
    }

    private boolean tell() throws Exception {
        String text = text();
        log.add("text: " + text);
        byte[] bytes = text.getBytes(StandardCharsets.ISO_8859_1);
        if (!call("end", 0)) {
            return false;
        }
        for (int at = 0; at < bytes.length; at += 20) {
            Object[] five = new Object[5];
            for (int i = 0; i < 5; i++) {
                int v = 0;
                for (int j = 0; j < 4; j++) {
                    int k = at + 4 * i + j;
                    v = v << 8 | (k < bytes.length ? bytes[k] & 255 : 'x');
                }
                five[i] = v;
            }
            if (!call("feed", five)) {
                return false;
            }
        }
        return call("end", Math.min(bytes.length, 1200)) && call("shore") && call("fault", 0)
                && call("fault", 1);
    }

    private int upTo(int most) {
        return random.nextInt(most + 1);
    }

    private String pick(String... of) {
        return of[random.nextInt(of.length)];
    }

    private String text() {
        int cells = 3 + upTo(9);
        int few = upTo(3);
        StringBuilder s = new StringBuilder();
        s.append("shore cells ").append(cells).append(" flood ").append(1 + upTo(few == 0 ? 11 : 3));
        s.append(" slack ").append(upTo(few == 0 ? 6 : 2)).append(" ebb ").append(1 + upTo(few == 0 ? 11 : 3));
        s.append(" odds ").append(pick("0", "100", "50", "10", "3")).append(';');
        List<String> lines = new ArrayList<>();
        for (int i = upTo(cells); i > 0; i--) {
            lines.add("current " + upTo(cells - 1) + " flood " + pick("", "back ") + upTo(3) + " ebb "
                    + pick("", "back ", "back ") + upTo(3));
        }
        for (int i = upTo(1 + cells / 3); i > 0; i--) {
            lines.add("beach " + upTo(cells - 1));
        }
        for (int i = random.nextInt(40) == 0 ? 9 : upTo(8); i > 0; i--) {
            lines.add("thing worth " + upTo(random.nextBoolean() ? 999 : 9) + " at " + upTo(cells - 1) + " from "
                    + upTo(random.nextBoolean() ? 99 : 5));
        }
        for (int i = random.nextInt(40) == 0 ? 7 : upTo(6); i > 0; i--) {
            int first = upTo(cells - 1);
            StringBuilder on = new StringBuilder();
            for (int k = 1 + upTo(2); k > 0; k--) {
                on.append(pick("flood ", "slack ", "ebb "));
            }
            lines.add("rule " + first + " to " + (first + upTo(cells - 1 - first)) + " on " + on + "to " + upTo(5));
        }
        for (int i = random.nextInt(40) == 0 ? 4 : upTo(3); i > 0; i--) {
            lines.add("sitter at " + upTo(cells - 1));
        }
        java.util.Collections.shuffle(lines, random);
        for (String line : lines) {
            s.append(pick("", " ", "\n")).append(line).append(pick("", "", " ")).append(';');
        }
        return random.nextInt(5) == 0 ? spoilt(s.toString()) : s.toString();
    }

    private String spoilt(String text) {
        StringBuilder s = new StringBuilder(text);
        int at = random.nextInt(s.length());
        switch (random.nextInt(7)) {
            case 0 -> s.setCharAt(at, (char) random.nextInt(256));
            case 1 -> s.deleteCharAt(at);
            case 2 -> s.insert(at, pick("0", "9", "a", ";", " ", "\n", "\t", "-", "99999999999999999999"));
            case 3 -> s.setLength(at);
            case 4 -> s.insert(s.indexOf(";", at) + 1, pick("shore", "tide", "beach", "rule 2 to 1 on ebb to 0;", "7", ";",
                    "rule 0 to 1 on to 0;", "rule 0 to 1 on ebb to 6;", "thing worth 1000 at 0 from 0;",
                    "thing worth 1 at 12 from 0;", "thing worth 1 at 0 from 100;", "sitter 1;", "current 0 flood 4 ebb 0;",
                    "current 0 flood back back 1 ebb 0;", "current 0 flood 1 ebb back 7;", "beach 12;", "beach 007"));
            case 5 -> s.insert(0, pick("beach 0;", "7", ";", "   ", "shore"));
            default -> {
                String[] words = text.split(" ");
                words[random.nextInt(words.length)] = pick("", "back", "7", "100", "13", "to");
                return String.join(" ", words);
            }
        }
        return s.toString();
    }

    private boolean layFloats() throws Exception {
        int slot = upTo(3);
        int floats = random.nextInt(10) == 0 ? 15 : upTo(4);
        if (!call("row", slot, 1 + upTo(2), 4 * floats)) {
            return false;
        }
        int cells = Math.max(1, naive.count(0));
        boolean sound = random.nextInt(4) != 0;
        int f = upTo(6) - 3;
        int e = upTo(6) - 3;
        for (int i = 0; i < floats; i++) {
            int c = random.nextInt(cells);
            int hour = upTo(random.nextBoolean() ? 400 : 20);
            int later = Math.min(400, hour + upTo(random.nextBoolean() ? 400 : 6));
            int to = random.nextInt(cells);
            if (sound && naive.count(10) > 0) {
                to = c;
                for (int h = hour; h < later; h++) {
                    int p = naive.phase(h);
                    to = Math.max(0, Math.min(cells - 1, to + (p == 0 ? f : p == 2 ? e : 0)));
                }
            }
            if (!call("write", slot, 4 * i, (long) c) || !call("write", slot, 4 * i + 1, (long) hour)
                    || !call("write", slot, 4 * i + 2, (long) later) || !call("write", slot, 4 * i + 3, (long) to)) {
                return false;
            }
        }
        return call("fits", slot) && call("fit", slot, 0) && call("fit", slot, 1) && call("ask", slot)
                && call("leaves", slot);
    }

    private Object[] argsFor(Method method) {
        Class<?>[] types = method.getParameterTypes();
        Object[] args = new Object[types.length];
        String[] names = kinds(method.getName());
        for (int i = 0; i < types.length; i++) {
            long v = random.nextInt(25) == 0 ? wild() : sound(names[i]);
            args[i] = types[i] == long.class ? (Object) v : (Object) (int) v;
        }
        return args;
    }

    private long wild() {
        long[] of = {-1, -2, 0, 1, 3, 4, 6, 12, 13, 20, 21, 60, 61, 99, 100, 400, 401, 999, 1000, 1000000000, 1000000001,
            2000000000, 2000000001, Integer.MAX_VALUE, Integer.MIN_VALUE, -20, -21, 127, 128, 255, 32768, 1L << 31, 1L << 40};
        return of[random.nextInt(of.length)];
    }

    private static String[] kinds(String name) {
        String all = switch (name) {
            case "feed" -> "x x x x x";
            case "end" -> "n";
            case "fault" -> "what";
            case "cell", "fit" -> (name.equals("fit") ? "slot" : "cell") + " what";
            case "thing" -> "thing what";
            case "rule" -> "rule what";
            case "sitter", "seats", "share", "rest" -> "sitter";
            case "phase", "lasts", "slacks" -> "tide";
            case "next" -> "tide phase";
            case "drifts" -> "cell tide";
            case "at" -> "thing hour";
            case "comes", "beach", "whose" -> "thing";
            case "has", "strike", "all", "drops", "set" -> "party";
            case "line", "eddy" -> "cell";
            case "gaps" -> "phase";
            case "without" -> "rule party";
            case "pushes", "soonest", "ward" -> "thing party";
            case "push", "way" -> "thing party small";
            case "meet" -> "thing thing";
            case "drop" -> "party throw";
            case "origins" -> "throw hour cell";
            case "when" -> "cell hour cell";
            case "fits", "ask", "leaves" -> "slot";
            case "seat", "sit" -> "sitter cell";
            case "clock" -> "party d";
            case "shove" -> "thing throw bit";
            case "drawn" -> "seed thing what";
            case "luck" -> "seed n20 thing party";
            case "waits" -> "seed n20 thing";
            case "rate" -> "thing worth";
            case "count" -> "n13";
            case "image", "back" -> "k";
            case "row" -> "slot width n";
            case "write" -> "slot n x";
            case "paste" -> "slot small slot small small";
            default -> "";
        };
        return all.split(" ");
    }

    private long sound(String kind) {
        return switch (kind) {
            case "what", "phase", "k" -> upTo(2);
            case "cell" -> upTo(Math.max(0, naive.count(0) - 1));
            case "thing" -> upTo(Math.max(0, naive.count(6) - 1));
            case "rule" -> upTo(Math.max(0, naive.count(7) - 1));
            case "sitter" -> upTo(Math.max(0, naive.count(8) - 1));
            case "party" -> upTo(5);
            case "tide" -> random.nextBoolean() ? upTo(80) : upTo(2000000000);
            case "hour" -> random.nextBoolean() ? upTo(40) : upTo(400);
            case "throw" -> random.nextBoolean() ? upTo(12) : upTo(99);
            case "small" -> upTo(4);
            case "slot", "width" -> upTo(3);
            case "d" -> upTo(40) - 20;
            case "bit" -> upTo(1);
            case "seed" -> random.nextBoolean() ? upTo(100) : upTo(2000000000);
            case "n20" -> 1 + upTo(19);
            case "n13" -> upTo(13);
            case "worth" -> upTo(999);
            case "n" -> upTo(60);
            default -> random.nextBoolean() ? upTo(400) : random.nextLong();
        };
    }
}
