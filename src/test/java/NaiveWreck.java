import java.nio.charset.StandardCharsets;
import java.util.ArrayList;
import java.util.Arrays;
import java.util.Comparator;
import java.util.List;
import java.util.TreeMap;

/**
 * A second reading of the document, as slow and as plain as can be: every answer is found by
 * going forward hour by hour, or by trying everything. ModelTest holds EbbWreck against it.
 */
final class NaiveWreck {
    static final int NONE = -1;

    static final class Thing {
        int worth;
        int cell;
        int from;
    }

    static final class Rule {
        int first;
        int last;
        int phases;
        int party;

        boolean stands(int cell, int phase) {
            return first <= cell && cell <= last && (phases & (1 << phase)) != 0;
        }
    }

    /** kind 's' (a sitter moved: who, the old cell) or 'p' (a thing pushed: who, hour, way). */
    record Act(char kind, int who, int mark, int way) { }

    static final class Told {
        int lines;
        int cells;
        int flood;
        int slack;
        int ebb;
        int odds;
        int[] floodSteps = new int[12];
        int[] ebbSteps = new int[12];
        boolean[] beach = new boolean[12];
        List<Thing> things = new ArrayList<>();
        List<Rule> rules = new ArrayList<>();
        List<Integer> sitters = new ArrayList<>();
        List<Act> acts = new ArrayList<>();

        Told copy() {
            Told t = new Told();
            t.lines = lines;
            t.cells = cells;
            t.flood = flood;
            t.slack = slack;
            t.ebb = ebb;
            t.odds = odds;
            t.floodSteps = floodSteps.clone();
            t.ebbSteps = ebbSteps.clone();
            t.beach = beach.clone();
            for (Thing a : things) {
                Thing b = new Thing();
                b.worth = a.worth;
                b.cell = a.cell;
                b.from = a.from;
                t.things.add(b);
            }
            t.rules = new ArrayList<>(rules);
            t.sitters = new ArrayList<>(sitters);
            t.acts = new ArrayList<>(acts);
            return t;
        }
    }

    /** Where a thing came up. */
    record Up(int hour, int cell) { }

    private final List<Integer> tape = new ArrayList<>();
    private Told t = new Told();
    private final Told[] images = new Told[3];
    private final long[][] slotRows = new long[4][];
    private final int[] slotWidths = new int[4];
    private int faultKind = 0;
    private int faultPlace = NONE;

    // ---- the tape ----

    int feed(int a, int b, int c, int d, int e) {
        if (tape.size() + 20 > 1200) {
            return NONE;
        }
        for (int v : new int[] {a, b, c, d, e}) {
            tape.add(v >>> 24);
            tape.add(v >>> 16 & 255);
            tape.add(v >>> 8 & 255);
            tape.add(v & 255);
        }
        return tape.size();
    }

    int end(int n) {
        if (n < 0 || n > tape.size()) {
            return NONE;
        }
        while (tape.size() > n) {
            tape.remove(tape.size() - 1);
        }
        return n;
    }

    // ---- the text: tokens first, then templates ----

    record Token(String text, int place) {
        boolean isWord() {
            return !text.isEmpty() && text.charAt(0) >= 'a' && text.charAt(0) <= 'z';
        }

        boolean isNumber() {
            return !text.isEmpty() && text.charAt(0) >= '0' && text.charAt(0) <= '9';
        }
    }

    private static List<Token> tokens(String text) {
        List<Token> out = new ArrayList<>();
        java.util.regex.Matcher m =
                java.util.regex.Pattern.compile("[ \n]+|[a-z]+|[0-9]+|;|(?s).").matcher(text);
        while (m.find()) {
            if (m.group().charAt(0) != ' ' && m.group().charAt(0) != '\n') {
                out.add(new Token(m.group(), m.start()));
            }
        }
        out.add(new Token("", text.length()));
        return out;
    }

    private static final class Fault extends RuntimeException {
        private static final long serialVersionUID = 1L;
        final int kind;
        final int place;

        Fault(int kind, int place) {
            this.kind = kind;
            this.place = place;
        }
    }

    private List<Token> stream;
    private int here;

    private Token peek() {
        return stream.get(here);
    }

    private void word(String w) {
        if (!peek().text.equals(w)) {
            throw new Fault(1, peek().place);
        }
        here++;
    }

    private int number(int low, int high) {
        if (!peek().isNumber()) {
            throw new Fault(1, peek().place);
        }
        java.math.BigInteger v = new java.math.BigInteger(peek().text);
        if (v.compareTo(java.math.BigInteger.valueOf(low)) < 0
                || v.compareTo(java.math.BigInteger.valueOf(high)) > 0) {
            throw new Fault(2, peek().place);
        }
        here++;
        return v.intValue();
    }

    private int steps() {
        if (peek().text.equals("back")) {
            here++;
            return -number(0, 3);
        }
        return number(0, 3);
    }

    private Told parse(String text) {
        stream = tokens(text);
        here = 0;
        Told s = new Told();
        while (!peek().text.isEmpty()) {
            Token head = peek();
            String w = head.text;
            if (s.lines == 0 != w.equals("shore")) {
                throw new Fault(1, head.place);
            }
            if (w.equals("thing") && s.things.size() == 8 || w.equals("rule") && s.rules.size() == 6
                    || w.equals("sitter") && s.sitters.size() == 3) {
                throw new Fault(3, head.place);
            }
            here++;
            switch (w) {
                case "shore" -> {
                    word("cells");
                    s.cells = number(3, 12);
                    word("flood");
                    s.flood = number(1, 12);
                    word("slack");
                    s.slack = number(0, 6);
                    word("ebb");
                    s.ebb = number(1, 12);
                    word("odds");
                    s.odds = number(0, 100);
                }
                case "current" -> {
                    int c = number(0, s.cells - 1);
                    word("flood");
                    s.floodSteps[c] = steps();
                    word("ebb");
                    s.ebbSteps[c] = steps();
                }
                case "beach" -> s.beach[number(0, s.cells - 1)] = true;
                case "thing" -> {
                    Thing th = new Thing();
                    word("worth");
                    th.worth = number(0, 999);
                    word("at");
                    th.cell = number(0, s.cells - 1);
                    word("from");
                    th.from = number(0, 99);
                    s.things.add(th);
                }
                case "rule" -> {
                    Rule r = new Rule();
                    r.first = number(0, s.cells - 1);
                    word("to");
                    r.last = number(r.first, s.cells - 1);
                    word("on");
                    List<String> names = List.of("flood", "slack", "ebb");
                    if (!names.contains(peek().text)) {
                        throw new Fault(1, peek().place);
                    }
                    while (names.contains(peek().text)) {
                        r.phases |= 1 << names.indexOf(peek().text);
                        here++;
                    }
                    word("to");
                    r.party = number(0, 5);
                    s.rules.add(r);
                }
                case "sitter" -> {
                    word("at");
                    s.sitters.add(number(0, s.cells - 1));
                }
                default -> throw new Fault(1, head.place);
            }
            word(";");
            s.lines++;
        }
        return s;
    }

    int shore() {
        byte[] bytes = new byte[tape.size()];
        for (int i = 0; i < bytes.length; i++) {
            bytes[i] = (byte) (int) tape.get(i);
        }
        try {
            Told told = parse(new String(bytes, StandardCharsets.ISO_8859_1));
            faultKind = 0;
            faultPlace = NONE;
            tape.clear();
            t = told;
            return t.lines;
        } catch (Fault f) {
            faultKind = f.kind;
            faultPlace = f.place;
            return -4;
        }
    }

    int fault(int what) {
        return what == 0 ? faultKind : what == 1 ? faultPlace : NONE;
    }

    // ---- told ----

    private boolean none() {
        return t.lines == 0;
    }

    private boolean noCell(int c) {
        return c < 0 || c >= t.cells;
    }

    private boolean noThing(int th) {
        return th < 0 || th >= t.things.size();
    }

    private boolean noSitter(int s) {
        return s < 0 || s >= t.sitters.size();
    }

    private boolean noParty(int p) {
        return none() || p < 0 || p > 5;
    }

    private static boolean out(long v, long low, long high) {
        return v < low || v > high;
    }

    int cell(int c, int what) {
        if (noCell(c) || out(what, 0, 2)) {
            return -1000;
        }
        return what == 0 ? t.floodSteps[c] : what == 1 ? t.ebbSteps[c] : t.beach[c] ? 1 : 0;
    }

    int thing(int th, int what) {
        if (noThing(th) || out(what, 0, 2)) {
            return -2;
        }
        Thing x = t.things.get(th);
        return new int[] {x.worth, x.cell, x.from}[what];
    }

    int rule(int r, int what) {
        if (out(r, 0, t.rules.size() - 1) || out(what, 0, 3)) {
            return -2;
        }
        Rule x = t.rules.get(r);
        return new int[] {x.first, x.last, x.phases, x.party}[what];
    }

    int sitter(int s) {
        return noSitter(s) ? -2 : t.sitters.get(s);
    }

    int count(int what) {
        int beaches = 0;
        for (boolean b : t.beach) {
            beaches += b ? 1 : 0;
        }
        int rows = 0;
        for (long[] r : slotRows) {
            rows += r == null ? 0 : 1;
        }
        int[] all = {t.cells, t.flood, t.slack, t.ebb, t.odds, beaches, t.things.size(), t.rules.size(),
            t.sitters.size(), t.acts.size(), t.lines, tape.size(), rows};
        return out(what, 0, 12) ? NONE : all[what];
    }

    // ---- the tide ----

    private int ph(long hour) {
        long round = t.flood + 2L * t.slack + t.ebb;
        long h = hour;
        while (h < 0) {
            h += round;
        }
        h %= round;
        int[] lengths = {t.flood, t.slack, t.ebb, t.slack};
        int part = 0;
        while (h >= lengths[part]) {
            h -= lengths[part];
            part++;
        }
        return part == 3 ? 1 : part;
    }

    int phase(int hour) {
        return none() || out(hour, 0, 2000000000) ? -2 : ph(hour);
    }

    int next(int hour, int phase) {
        if (none() || out(hour, 0, 1000000000) || out(phase, 0, 2)) {
            return -2;
        }
        for (int h = hour; h < hour + 100; h++) {
            if (ph(h) == phase) {
                return h;
            }
        }
        return NONE;
    }

    int lasts(int hour) {
        if (none() || out(hour, 0, 2000000000)) {
            return -2;
        }
        int n = 0;
        while (ph((long) hour + n) == ph(hour)) {
            n++;
        }
        return n;
    }

    int slacks(int hour) {
        if (none() || out(hour, 0, 2000000000)) {
            return -2;
        }
        int round = t.flood + 2 * t.slack + t.ebb;
        int whole = hour / round;
        int n = 2 * t.slack * whole;
        for (int h = whole * round; h < hour; h++) {
            n += ph(h) == 1 ? 1 : 0;
        }
        return n;
    }

    private int on(int c, int by) {
        return Math.max(0, Math.min(t.cells - 1, c + by));
    }

    private int dr(int c, int hour) {
        int p = ph(hour);
        return on(c, p == 0 ? t.floodSteps[c] : p == 2 ? t.ebbSteps[c] : 0);
    }

    int drifts(int c, int hour) {
        return noCell(c) || out(hour, 0, 2000000000) ? -2 : dr(c, hour);
    }

    // ---- things ----

    private int pushDone(int th, int hour) {
        for (Act a : t.acts) {
            if (a.kind == 'p' && a.who == th && a.mark == hour) {
                return a.way;
            }
        }
        return 0;
    }

    /** Cells by hour from the first on; afloat to the last but one, if it comes up. */
    private List<Integer> path(int th, int until, long seed) {
        Thing x = t.things.get(th);
        List<Integer> cells = new ArrayList<>();
        int c = x.cell;
        cells.add(c);
        long draw = seed;
        for (int h = x.from; h < until; h++) {
            if (seed >= 0) {
                draw = (1103515245L * draw + 12345L) % 2147483648L;
                if (draw / 65536 % 100 < t.odds) {
                    c = on(c, 1);
                }
            }
            c = on(c, pushDone(th, h));
            c = dr(c, h);
            cells.add(c);
            if (t.beach[c]) {
                break;
            }
        }
        return cells;
    }

    private Up up(int th, long seed) {
        List<Integer> p = path(th, 400, seed);
        int last = p.get(p.size() - 1);
        return p.size() > 1 && t.beach[last] ? new Up(t.things.get(th).from + p.size() - 1, last) : null;
    }

    private Up thrown(int c, int hour) {
        int now = c;
        for (int h = hour; h < 400; h++) {
            now = dr(now, h);
            if (t.beach[now]) {
                return new Up(h + 1, now);
            }
        }
        return null;
    }

    private int who(int c, int phase, int struck) {
        for (int r = 0; r < t.rules.size(); r++) {
            if (r != struck && t.rules.get(r).stands(c, phase)) {
                return t.rules.get(r).party;
            }
        }
        return NONE;
    }

    private int who(Up u) {
        return u == null ? NONE : who(u.cell, ph(u.hour), NONE);
    }

    int at(int th, int hour) {
        if (noThing(th) || out(hour, 0, 400)) {
            return -2;
        }
        if (hour < t.things.get(th).from) {
            return NONE;
        }
        List<Integer> p = path(th, hour, -1);
        return p.get(p.size() - 1);
    }

    int comes(int th) {
        return noThing(th) ? -2 : up(th, -1) == null ? NONE : up(th, -1).hour;
    }

    int beach(int th) {
        return noThing(th) ? -2 : up(th, -1) == null ? NONE : up(th, -1).cell;
    }

    int whose(int th) {
        return noThing(th) ? -2 : who(up(th, -1));
    }

    private int worth(int party, int later, int struck) {
        int sum = 0;
        for (int th = 0; th < t.things.size(); th++) {
            Up u = up(th, -1);
            if (u != null && who(u.cell, ph(u.hour + later), struck) == party) {
                sum += t.things.get(th).worth;
            }
        }
        return sum;
    }

    int has(int p) {
        return noParty(p) ? -2 : worth(p, 0, NONE);
    }

    int line(int c) {
        if (noCell(c)) {
            return -2;
        }
        int bits = 0;
        for (int th = 0; th < t.things.size(); th++) {
            bits |= beach(th) == c ? 1 << th : 0;
        }
        return bits;
    }

    int argued() {
        if (none()) {
            return -2;
        }
        int bits = 0;
        for (int th = 0; th < t.things.size(); th++) {
            Up u = up(th, -1);
            for (Rule a : t.rules) {
                for (Rule b : t.rules) {
                    if (u != null && a.party != b.party && a.stands(u.cell, ph(u.hour))
                            && b.stands(u.cell, ph(u.hour))) {
                        bits |= 1 << th;
                    }
                }
            }
        }
        return bits;
    }

    int gaps(int phase) {
        if (none() || out(phase, 0, 2)) {
            return -2;
        }
        int bits = 0;
        for (int c = 0; c < t.cells; c++) {
            bits |= t.beach[c] && who(c, phase, NONE) == NONE ? 1 << c : 0;
        }
        return bits;
    }

    int idle() {
        if (none()) {
            return -2;
        }
        int bits = 0;
        for (int r = 0; r < t.rules.size(); r++) {
            boolean decides = false;
            for (int c = 0; c < t.cells; c++) {
                for (int p = 0; p < 3; p++) {
                    boolean first = t.beach[c] && t.rules.get(r).stands(c, p);
                    for (int q = 0; q < r; q++) {
                        first &= !t.rules.get(q).stands(c, p);
                    }
                    decides |= first;
                }
            }
            bits |= decides ? 0 : 1 << r;
        }
        return bits;
    }

    int without(int r, int p) {
        return out(r, 0, t.rules.size() - 1) || noParty(p) ? -2 : worth(p, 0, r);
    }

    int strike(int p) {
        if (noParty(p)) {
            return -2;
        }
        int best = NONE;
        for (int r = 0; r < t.rules.size(); r++) {
            int w = worth(p, 0, r);
            if (w > worth(p, 0, best)) {
                best = r;
            }
        }
        return best;
    }

    int richest() {
        if (none()) {
            return -2;
        }
        int best = 0;
        for (int p = 0; p < 6; p++) {
            best = has(p) > has(best) ? p : best;
        }
        return best;
    }

    int meet(int a, int b) {
        if (noThing(a) || noThing(b) || a == b) {
            return -2;
        }
        for (int h = 0; h <= 400; h++) {
            if (afloat(a, h) && afloat(b, h) && at(a, h) == at(b, h)) {
                return h;
            }
        }
        return NONE;
    }

    private boolean afloat(int th, int h) {
        return h >= t.things.get(th).from && (comes(th) == NONE || h < comes(th));
    }

    int clock(int p, int d) {
        return noParty(p) || out(d, -20, 20) ? -2 : worth(p, d, NONE);
    }

    int set(int p) {
        if (noParty(p)) {
            return -1000;
        }
        List<Integer> ds = new ArrayList<>();
        for (int d = -20; d <= 20; d++) {
            ds.add(d);
        }
        ds.sort(Comparator.comparingInt((Integer d) -> -clock(p, d)).thenComparingInt(Math::abs)
                .thenComparingInt(d -> d));
        return ds.get(0);
    }

    // ---- pushes: forward, each state keeping its least row ----

    private static int compareRows(List<Integer> a, List<Integer> b) {
        if (a.size() != b.size()) {
            return a.size() - b.size();
        }
        for (int i = 0; i < a.size(); i++) {
            if (!a.get(i).equals(b.get(i))) {
                return a.get(i) - b.get(i);
            }
        }
        return 0;
    }

    private static List<Integer> lesser(List<Integer> a, List<Integer> b) {
        return a == null ? b : b == null ? a : compareRows(a, b) <= 0 ? a : b;
    }

    private List<Integer> leastRow(int th, int party, boolean ward) {
        Thing x = t.things.get(th);
        TreeMap<Integer, List<Integer>> now = new TreeMap<>();
        now.put(x.cell, new ArrayList<>());
        List<Integer> best = null;
        for (int h = x.from; h < 100; h++) {
            TreeMap<Integer, List<Integer>> then = new TreeMap<>();
            for (int c : now.keySet()) {
                for (int way = -1; way <= 1; way++) {
                    List<Integer> row = new ArrayList<>(now.get(c));
                    if (way != 0) {
                        row.add(2 * h + (way < 0 ? 1 : 0));
                    }
                    int to = dr(on(c, way), h);
                    if (!t.beach[to]) {
                        then.put(to, lesser(then.get(to), row));
                    } else if ((who(to, ph(h + 1), NONE) == party) != ward) {
                        best = lesser(best, row);
                    }
                }
            }
            now = then;
        }
        if (ward) {
            for (List<Integer> row : now.values()) {
                best = lesser(best, row);
            }
        }
        return best;
    }

    int pushes(int th, int p) {
        if (noThing(th) || noParty(p)) {
            return -2;
        }
        List<Integer> row = leastRow(th, p, false);
        return row == null ? NONE : row.size();
    }

    int push(int th, int p, int i) {
        if (noThing(th) || noParty(p)) {
            return -2;
        }
        List<Integer> row = leastRow(th, p, false);
        return row == null || out(i, 0, row.size() - 1) ? NONE : row.get(i) / 2;
    }

    int way(int th, int p, int i) {
        if (noThing(th) || noParty(p)) {
            return -2;
        }
        List<Integer> row = leastRow(th, p, false);
        return row == null || out(i, 0, row.size() - 1) ? NONE : row.get(i) % 2;
    }

    int soonest(int th, int p) {
        if (noThing(th) || noParty(p)) {
            return -2;
        }
        return soonestFrom(t.things.get(th).cell, t.things.get(th).from, p, new int[12 * 101]);
    }

    /** seen: 0 not yet, else the answer and 2. */
    private int soonestFrom(int c, int h, int p, int[] seen) {
        if (h >= 100) {
            return NONE;
        }
        if (seen[h * 12 + c] != 0) {
            return seen[h * 12 + c] - 2;
        }
        int best = NONE;
        for (int way = -1; way <= 1; way++) {
            int to = dr(on(c, way), h);
            int found = !t.beach[to] ? soonestFrom(to, h + 1, p, seen)
                    : who(to, ph(h + 1), NONE) == p ? h + 1 : NONE;
            if (found != NONE && (best == NONE || found < best)) {
                best = found;
            }
        }
        seen[h * 12 + c] = best + 2;
        return best;
    }

    int ward(int th, int p) {
        if (noThing(th) || noParty(p)) {
            return -2;
        }
        List<Integer> row = leastRow(th, p, true);
        return row == null ? NONE : row.size();
    }

    int all(int p) {
        if (noParty(p)) {
            return -2;
        }
        int sum = 0;
        for (int th = 0; th < t.things.size(); th++) {
            if (pushes(th, p) == NONE) {
                return NONE;
            }
            sum += pushes(th, p);
        }
        return sum;
    }

    // ---- thrown in ----

    int eddy(int c) {
        if (noCell(c)) {
            return -2;
        }
        int round = t.flood + 2 * t.slack + t.ebb;
        List<Integer> begins = new ArrayList<>();
        int now = c;
        for (int h = 0; ; h++) {
            if (h > 0 && t.beach[now]) {
                return NONE;
            }
            if (h % round == 0) {
                if (begins.contains(now)) {
                    return h / round;
                }
                begins.add(now);
            }
            now = dr(now, h);
        }
    }

    int stuck() {
        if (none()) {
            return -2;
        }
        int bits = 0;
        for (int c = 0; c < t.cells; c++) {
            bits |= thrown(c, 0) == null ? 1 << c : 0;
        }
        return bits;
    }

    int drop(int p, int hour) {
        if (noParty(p) || out(hour, 0, 99)) {
            return -2;
        }
        int bits = 0;
        for (int c = 0; c < t.cells; c++) {
            bits |= who(thrown(c, hour)) == p ? 1 << c : 0;
        }
        return bits;
    }

    int drops(int p) {
        if (noParty(p)) {
            return -2;
        }
        int best = NONE;
        int most = 0;
        for (int h = 0; h < 100; h++) {
            if (Integer.bitCount(drop(p, h)) > most) {
                most = Integer.bitCount(drop(p, h));
                best = h;
            }
        }
        return best;
    }

    int origins(int from, int hour, int c) {
        if (noCell(c) || out(from, 0, 400) || out(hour, 0, 400) || hour < from) {
            return -2;
        }
        int bits = 0;
        for (int first = 0; first < t.cells; first++) {
            int now = first;
            boolean came = false;
            for (int h = from; h < hour; h++) {
                came |= h > from && t.beach[now];
                now = dr(now, h);
            }
            bits |= !came && now == c ? 1 << first : 0;
        }
        return bits;
    }

    int when(int from, int hour, int c) {
        if (noCell(from) || noCell(c) || out(hour, 0, 400)) {
            return -2;
        }
        for (int h = hour; h >= 0; h--) {
            Up u = thrown(from, h);
            if (u != null && u.hour == hour && u.cell == c) {
                return h;
            }
        }
        return NONE;
    }

    // ---- floats ----

    private int carried(int c, int hour, int later, int f, int e) {
        int now = c;
        for (int h = hour; h < later; h++) {
            now = on(now, ph(h) == 0 ? f : ph(h) == 2 ? e : 0);
        }
        return now;
    }

    private int amiss(int slot) {
        if (out(slot, 0, 3) || none()) {
            return -2;
        }
        long[] r = slotRows[slot];
        if (r == null) {
            return -6;
        }
        if (r.length % 4 != 0) {
            return -2;
        }
        for (int i = 0; i < r.length; i += 4) {
            if (out(r[i], 0, t.cells - 1) || out(r[i + 3], 0, t.cells - 1) || out(r[i + 1], 0, 400)
                    || out(r[i + 2], r[i + 1], 400)) {
                return -2;
            }
        }
        return 0;
    }

    private List<int[]> pairs(int slot) {
        List<int[]> fit = new ArrayList<>();
        long[] r = slotRows[slot];
        for (int f = -3; f <= 3; f++) {
            for (int e = -3; e <= 3; e++) {
                boolean ok = true;
                for (int i = 0; i < r.length; i += 4) {
                    ok &= carried((int) r[i], (int) r[i + 1], (int) r[i + 2], f, e) == r[i + 3];
                }
                if (ok) {
                    fit.add(new int[] {f, e});
                }
            }
        }
        return fit;
    }

    int fits(int slot) {
        return amiss(slot) < 0 ? amiss(slot) : pairs(slot).size();
    }

    int fit(int slot, int what) {
        if (amiss(slot) < 0 || out(what, 0, 1) || pairs(slot).isEmpty()) {
            return -1000;
        }
        List<int[]> fit = pairs(slot);
        fit.sort(Comparator.comparingInt((int[] x) -> Math.abs(x[0]) + Math.abs(x[1]))
                .thenComparingInt(x -> x[0]).thenComparingInt(x -> x[1]));
        return fit.get(0)[what];
    }

    private int worst(int slot, int c) {
        int[] groups = new int[12];
        for (int[] x : pairs(slot)) {
            groups[carried(c, 0, 12, x[0], x[1])]++;
        }
        return Arrays.stream(groups).max().getAsInt();
    }

    int ask(int slot) {
        if (amiss(slot) < 0) {
            return amiss(slot);
        }
        int best = NONE;
        for (int c = 0; c < t.cells; c++) {
            int least = best == NONE ? pairs(slot).size() : worst(slot, best);
            best = worst(slot, c) < least ? c : best;
        }
        return best;
    }

    int leaves(int slot) {
        if (amiss(slot) < 0) {
            return amiss(slot);
        }
        return ask(slot) == NONE ? pairs(slot).size() : worst(slot, ask(slot));
    }

    // ---- sitters ----

    private int[] worths(List<Integer> seats) {
        int[] got = new int[seats.size()];
        for (int th = 0; th < t.things.size(); th++) {
            Up u = up(th, -1);
            if (u == null || ph(u.hour) != 1 || who(u) != NONE) {
                continue;
            }
            int heads = 0;
            for (int c : seats) {
                heads += c == u.cell ? 1 : 0;
            }
            for (int s = 0; s < got.length; s++) {
                got[s] += seats.get(s) == u.cell ? t.things.get(th).worth / heads : 0;
            }
        }
        return got;
    }

    private List<Integer> moved(List<Integer> seats, int s, int c) {
        List<Integer> then = new ArrayList<>(seats);
        then.set(s, c);
        return then;
    }

    int share(int s) {
        return noSitter(s) ? -2 : worths(t.sitters)[s];
    }

    int seat(int s, int c) {
        return noSitter(s) || noCell(c) ? -2 : worths(moved(t.sitters, s, c))[s];
    }

    int seats(int s) {
        if (noSitter(s)) {
            return -2;
        }
        int best = 0;
        for (int c = 0; c < t.cells; c++) {
            best = seat(s, c) > seat(s, best) ? c : best;
        }
        return best;
    }

    private void findRests(List<Integer> seats, List<List<Integer>> found) {
        if (seats.size() < t.sitters.size()) {
            for (int c = 0; c < t.cells; c++) {
                if (t.beach[c]) {
                    List<Integer> more = new ArrayList<>(seats);
                    more.add(c);
                    findRests(more, found);
                }
            }
            return;
        }
        int[] now = worths(seats);
        for (int s = 0; s < now.length; s++) {
            for (int c = 0; c < t.cells; c++) {
                if (t.beach[c] && worths(moved(seats, s, c))[s] > now[s]) {
                    return;
                }
            }
        }
        found.add(seats);
    }

    int rests() {
        if (none()) {
            return -2;
        }
        List<List<Integer>> found = new ArrayList<>();
        findRests(new ArrayList<>(), found);
        return found.size();
    }

    int rest(int s) {
        if (noSitter(s)) {
            return -2;
        }
        List<List<Integer>> found = new ArrayList<>();
        findRests(new ArrayList<>(), found);
        return found.isEmpty() ? NONE : found.get(0).get(s);
    }

    // ---- acts ----

    int sit(int s, int c) {
        if (noSitter(s) || noCell(c)) {
            return -2;
        }
        if (t.acts.size() == 40) {
            return -5;
        }
        int old = t.sitters.set(s, c);
        t.acts.add(new Act('s', s, old, 0));
        return old;
    }

    int shove(int th, int hour, int back) {
        if (noThing(th) || out(hour, 0, 400) || out(back, 0, 1)) {
            return -2;
        }
        if (t.acts.size() == 40 || pushDone(th, hour) != 0) {
            return -5;
        }
        t.acts.add(new Act('p', th, hour, back == 1 ? -1 : 1));
        int n = 0;
        for (Act a : t.acts) {
            n += a.kind == 'p' && a.who == th ? 1 : 0;
        }
        return n;
    }

    int undo() {
        if (none()) {
            return -2;
        }
        if (t.acts.isEmpty()) {
            return -5;
        }
        Act a = t.acts.remove(t.acts.size() - 1);
        if (a.kind == 's') {
            t.sitters.set(a.who, a.mark);
        }
        return t.acts.size();
    }

    int anew() {
        if (none()) {
            return -2;
        }
        int n = t.acts.size();
        while (!t.acts.isEmpty()) {
            undo();
        }
        return n;
    }

    int rate(int th, int n) {
        if (noThing(th) || out(n, 0, 999)) {
            return -2;
        }
        if (!t.acts.isEmpty()) {
            return -5;
        }
        int old = t.things.get(th).worth;
        t.things.get(th).worth = n;
        return old;
    }

    // ---- gales ----

    int drawn(int seed, int th, int what) {
        if (noThing(th) || out(seed, 0, 2000000000) || out(what, 0, 2)) {
            return -2;
        }
        Up u = up(th, seed);
        return u == null ? NONE : what == 0 ? u.hour : what == 1 ? u.cell : who(u);
    }

    int luck(int seed, int n, int th, int p) {
        if (noThing(th) || out(seed, 0, 2000000000) || out(n, 1, 20) || noParty(p)) {
            return -2;
        }
        int times = 0;
        for (int i = 0; i < n; i++) {
            times += who(up(th, (long) seed + i)) == p ? 1 : 0;
        }
        return times;
    }

    int waits(int seed, int n, int th) {
        if (noThing(th) || out(seed, 0, 2000000000) || out(n, 1, 20)) {
            return -2;
        }
        int[] times = new int[12];
        for (int i = 0; i < n; i++) {
            Up u = up(th, (long) seed + i);
            if (u != null) {
                times[u.cell]++;
            }
        }
        int best = NONE;
        for (int c = 0; c < 12; c++) {
            best = times[c] > (best == NONE ? 0 : times[best]) ? c : best;
        }
        return best;
    }

    // ---- images ----

    int image(int k) {
        if (out(k, 0, 2)) {
            return -2;
        }
        images[k] = t.copy();
        return 0;
    }

    int back(int k) {
        if (out(k, 0, 2)) {
            return -2;
        }
        if (images[k] == null) {
            return -6;
        }
        t = images[k].copy();
        return 0;
    }

    // ---- slots ----

    int row(int slot, int width, int n) {
        if (out(slot, 0, 3) || out(width, 0, 3) || n > 60) {
            return -2;
        }
        if (n < 0) {
            return -3;
        }
        slotRows[slot] = new long[n];
        slotWidths[slot] = width;
        return 0;
    }

    int write(int slot, int i, long v) {
        if (out(slot, 0, 3)) {
            return -2;
        }
        if (slotRows[slot] == null) {
            return -6;
        }
        if (out(i, 0, slotRows[slot].length - 1)) {
            return -7;
        }
        int cut = 64 - 8 * (1 << slotWidths[slot]);
        slotRows[slot][i] = v << cut >> cut;
        return 0;
    }

    int paste(int slot, int i, int to, int k, int n) {
        if (out(slot, 0, 3) || out(to, 0, 3)) {
            return -2;
        }
        if (slotRows[slot] == null || slotRows[to] == null) {
            return -6;
        }
        if (slotWidths[slot] != slotWidths[to]) {
            return -8;
        }
        if (i < 0 || k < 0 || n < 0 || (long) i + n > slotRows[slot].length
                || (long) k + n > slotRows[to].length) {
            return -7;
        }
        long[] copy = slotRows[slot].clone();
        for (int j = 0; j < n; j++) {
            slotRows[to][k + j] = copy[i + j];
        }
        return 0;
    }
}
