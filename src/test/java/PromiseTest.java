import java.nio.charset.StandardCharsets;

/** Each promise by hand: answers worked out on paper from the document, its edges, wrong inputs. */
public final class PromiseTest {
    private static int wrong = 0;
    private static int asked = 0;

    /**
     * Round of 8: flood 0 1 2, slack 3, ebb 4 5 6, slack 7. Unpushed: 0 comes up in 2 on 5 (flood),
     * 1 in 5 on 0 (ebb), 2 in 3 on 5 (slack), 3 in 7 on 5 (slack), 4 in 7 on 0 (slack).
     */
    private static final String BAY = "shore cells 6 flood 3 slack 1 ebb 3 odds 50;\n"
            + "current 1 flood 1 ebb back 1; current 2 flood 1 ebb back 1;\n"
            + "current 3 flood 0 ebb 0; current 3 flood 2 ebb back 1; current 4 flood 1 ebb back 3;\n"
            + "beach 0; beach 5; beach 5;\n"
            + "thing worth 100 at 2 from 0; thing worth 50 at 1 from 4; thing worth 30 at 4 from 2;\n"
            + "thing worth 7 at 5 from 6; thing worth 9 at 3 from 3;\n"
            + "rule 5 to 5 on flood to 1; rule 0 to 5 on flood ebb to 2; rule 0 to 0 on ebb to 3;\n"
            + "rule 0 to 0 on slack slack to 0;\n"
            + "sitter at 5; sitter at 5; sitter at 0;";
    private static final int BAY_LINES = 1 + 5 + 3 + 5 + 4 + 3;

    /** No beach, no thing, no rule, no slack. */
    private static final String BARE = "shore cells 3 flood 1 slack 0 ebb 1 odds 0;";

    private static void due(String call, long got, long want) {
        asked++;
        if (got != want) {
            wrong++;
            System.out.println(call + " answered " + got + ", due is " + want);
        }
    }

    private static void feedText(EbbWreck x, String text) {
        byte[] bytes = text.getBytes(StandardCharsets.ISO_8859_1);
        int before = x.count(11);
        for (int at = 0; at < bytes.length; at += 20) {
            int[] five = new int[5];
            for (int i = 0; i < 20; i++) {
                five[i / 4] = five[i / 4] << 8 | (at + i < bytes.length ? bytes[at + i] & 255 : '#');
            }
            x.feed(five[0], five[1], five[2], five[3], five[4]);
        }
        due("end behind a text", x.end(before + bytes.length), before + bytes.length);
    }

    private static EbbWreck told(String text) {
        EbbWreck x = new EbbWreck();
        feedText(x, text);
        if (x.shore() < 0) {
            due("a test's own shore: " + text, x.fault(1), NO_FAULT);
        }
        return x;
    }

    private static final int NO_FAULT = -1;

    public static void main(String[] args) {
        newObject();
        tape();
        shoreAndFault();
        faults();
        tellings();
        tides();
        drifting();
        comingUp();
        rulesSaying();
        pushed();
        wards();
        meeting();
        eddies();
        drops();
        originsAndWhen();
        floats();
        floatsAmiss();
        sitting();
        resting();
        clocks();
        acts();
        actsBound();
        gales();
        rates();
        counts();
        images();
        slots();
        wildCalls();
        System.out.println("PromiseTest: " + asked + " asked, " + wrong + " wrong");
        if (wrong != 0) {
            System.exit(1);
        }
    }

    // Promise 1, and what each call answers without a SHORE.
    private static void newObject() {
        EbbWreck x = new EbbWreck();
        for (int what = 0; what <= 12; what++) {
            due("new count " + what, x.count(what), 0);
        }
        due("new cell", x.cell(0, 0), -1000);
        due("new fit", x.fit(0, 0), -1000);
        due("new set", x.set(0), -1000);
        int[] unknown = {x.thing(0, 0), x.rule(0, 0), x.sitter(0), x.phase(0), x.next(0, 0), x.drifts(0, 0), x.at(0, 0),
            x.comes(0), x.beach(0), x.whose(0), x.has(0), x.line(0), x.argued(), x.gaps(0), x.idle(), x.without(0, 0),
            x.strike(0), x.pushes(0, 0), x.push(0, 0, 0), x.way(0, 0, 0), x.soonest(0, 0), x.ward(0, 0), x.all(0),
            x.richest(), x.meet(0, 1), x.lasts(0), x.slacks(0), x.eddy(0), x.stuck(), x.drop(0, 0), x.drops(0),
            x.share(0), x.origins(0, 0, 0), x.when(0, 0, 0), x.fits(0), x.ask(0), x.leaves(0), x.seat(0, 0),
            x.seats(0), x.rests(), x.rest(0), x.clock(0, 0), x.sit(0, 0), x.shove(0, 0, 0), x.undo(), x.anew(),
            x.drawn(0, 0, 0), x.luck(0, 1, 0, 0), x.waits(0, 1, 0), x.rate(0, 0)};
        for (int i = 0; i < unknown.length; i++) {
            due("new, unknown " + i, unknown[i], -2);
        }
        due("NONE", EbbWreck.NONE, -1);
    }

    // Promises 2 and 3.
    private static void tape() {
        EbbWreck x = new EbbWreck();
        due("end 1 of nothing", x.end(1), -1);
        due("end 0 of nothing", x.end(0), 0);
        for (int i = 1; i <= 60; i++) {
            due("feed", x.feed(0x20202020, 0x20202020, 0x20202020, 0x20202020, 0x20202020), 20 * i);
        }
        due("feed of a full tape", x.feed(1, 2, 3, 4, 5), -1);
        due("full", x.count(11), 1200);
        due("end above", x.end(1201), -1);
        due("end below 0", x.end(-1), -1);
        due("end least int", x.end(Integer.MIN_VALUE), -1);
        due("stays", x.count(11), 1200);
        due("end 1181", x.end(1181), 1181);
        due("feed over the edge", x.feed(1, 2, 3, 4, 5), -1);
        due("none came", x.count(11), 1181);
        due("end 1180", x.end(1180), 1180);
        due("feed to the edge", x.feed(0x20202020, 0, 0, 0, 0x0a0a0a0a), 1200);
        due("zero bytes are no tokens", x.shore(), -4);
        due("their place", x.fault(1), 1184);
        due("end 1184", x.end(1184), 1184);
        due("blanks alone", x.shore(), 0);
        due("tape is empty", x.count(11), 0);
        for (int i = 1; i <= 60; i++) {
            x.feed(0x20202020, 0x20202020, 0x20202020, 0x0a0a0a0a, 0x20202020);
        }
        due("a full tape of blanks", x.shore(), 0);
        x.feed('s' << 24 | 'h' << 16 | 'o' << 8 | 'r', 'e' << 24 | 0x202020, 0x20202020, 0x20202020, 0x20202020);
        due("cut ahead of its blanks", x.end(5), 5);
        due("a fault at the end", x.shore(), -4);
        due("the end's place", x.fault(1), 5);
        x.end(0);
        x.feed('b' << 24 | 'e' << 16 | 'a' << 8 | 'c', 'h' << 24, 0, 0, 0);
        due("highest byte first", x.shore(), -4);
        due("its place", x.fault(1), 0);
    }

    // Promises 4 and 5.
    private static void shoreAndFault() {
        EbbWreck x = new EbbWreck();
        due("fault 0 ahead of any", x.fault(0), 0);
        due("fault 1 ahead of any", x.fault(1), -1);
        due("fault 2", x.fault(2), -1);
        due("fault -1", x.fault(-1), -1);
        feedText(x, BAY);
        due("shore", x.shore(), BAY_LINES);
        due("tape is empty", x.count(11), 0);
        due("lines", x.count(10), BAY_LINES);
        x.shove(0, 0, 1);
        x.sit(0, 3);
        feedText(x, "shore cells 2 flood 3 slack 1 ebb 3 odds 50;");
        due("faulty shore", x.shore(), -4);
        due("kind", x.fault(0), 2);
        due("place", x.fault(1), 12);
        due("fault 3", x.fault(3), -1);
        due("the tape stays", x.count(11), 44);
        due("the shore stays", x.count(0), 6);
        due("acts stay", x.count(9), 2);
        due("seats stay", x.sitter(0), 3);
        due("end", x.end(0), 0);
        feedText(x, BAY);
        due("shore again", x.shore(), BAY_LINES);
        due("no fault", x.fault(0), 0);
        due("no place", x.fault(1), -1);
        due("nothing done", x.count(9), 0);
        due("sits as told", x.sitter(0), 5);
        due("drifts as told", x.comes(0), 2);
        due("empty tape", x.shore(), 0);
        due("there is none then", x.phase(0), -2);
        due("no cells", x.count(0), 0);
        due("no things", x.comes(0), -2);
        due("no acts to undo", x.undo(), -2);
    }

    private static void faulty(String text, int kind, int place) {
        EbbWreck x = new EbbWreck();
        feedText(x, text);
        due("shore of: " + text, x.shore(), -4);
        due("fault of: " + text, x.fault(0), kind);
        due("place of: " + text, x.fault(1), place);
    }

    private static void sound(String text, int lines) {
        EbbWreck x = new EbbWreck();
        feedText(x, text);
        due("shore of: " + text, x.shore(), lines);
    }

    // Promise 5: the kinds and places of FAULTS.
    private static void faults() {
        String s = BARE;
        int n = s.length();
        sound(s, 1);
        sound("shore\ncells3flood1slack0ebb1odds0;", 1);
        sound("  \n" + s + "\n beach 2 ; ", 2);
        sound("shore cells 012 flood 0000000000000000000012 slack 6 ebb 12 odds 100;", 1);
        faulty("shore", 1, 5);
        faulty("shore ", 1, 6);
        faulty("shore cells 3", 1, 13);
        faulty("shore cells;", 1, 11);
        faulty(s.substring(0, n - 1), 1, n - 1);
        faulty("beach 1;", 1, 0);
        faulty(" 3", 1, 1);
        faulty(";", 1, 0);
        faulty("Shore", 1, 0);
        faulty("shores cells 3", 1, 0);
        faulty("shor", 1, 0);
        faulty("xhore cells 3", 1, 0);
        faulty("shorez cells 3", 1, 0);
        faulty("shore cells 3a", 1, 13);
        faulty("shore\tcells 3", 1, 5);
        faulty("shore cells -3", 1, 12);
        faulty("shore cells three", 1, 12);
        faulty("shore cells 2", 2, 12);
        faulty("shore cells 13", 2, 12);
        faulty("shore cells 4294967299", 2, 12);
        faulty("shore cells 99999999999999999999999999", 2, 12);
        faulty("shore cells 3 flood 0", 2, 20);
        faulty("shore cells 3 flood 13", 2, 20);
        faulty("shore cells 3 flood 1 slack 7", 2, 28);
        faulty("shore cells 3 flood 1 slack 0 ebb 0", 2, 34);
        faulty("shore cells 3 flood 1 slack 0 ebb 13", 2, 34);
        faulty("shore cells 3 flood 1 slack 0 ebb 1 odds 101", 2, 41);
        faulty(s + s, 1, n);
        faulty(s + ";", 1, n);
        faulty(s + "5", 1, n);
        faulty(s + "tide 1;", 1, n);
        faulty(s + "beach 3;", 2, n + 6);
        faulty(s + "beach 1", 1, n + 7);
        faulty(s + "beach;", 1, n + 5);
        faulty(s + "beachz 1;", 1, n);
        faulty(s + "beach 1z;", 1, n + 7);
        faulty(s + "beach 1 2;", 1, n + 8);
        faulty(s + (char) 233, 1, n);
        faulty(s + "current 3 flood 1 ebb 1;", 2, n + 8);
        faulty(s + "current 1 flood 4 ebb 1;", 2, n + 16);
        faulty(s + "current 1 flood back 4 ebb 1;", 2, n + 21);
        faulty(s + "current 1 flood back back 1 ebb 1;", 1, n + 21);
        faulty(s + "current 1 ebb 1 flood 1;", 1, n + 10);
        faulty(s + "current 1 flood 1 ebb back;", 1, n + 26);
        faulty(s + "thing worth 1000 at 0 from 0;", 2, n + 12);
        faulty(s + "thing worth 1 at 3 from 0;", 2, n + 17);
        faulty(s + "thing worth 1 at 0 from 100;", 2, n + 24);
        faulty(s + "rule 2 to 1 on ebb to 0;", 2, n + 10);
        faulty(s + "rule 2 to 3 on ebb to 0;", 2, n + 10);
        faulty(s + "rule 3 to 3 on ebb to 0;", 2, n + 5);
        faulty(s + "rule 0 to 0 on to 0;", 1, n + 15);
        faulty(s + "rule 0 to 0 on tide to 0;", 1, n + 15);
        faulty(s + "rule 0 to 0 on ebb tide to 0;", 1, n + 19);
        faulty(s + "rule 0 to 0 on ebb to 6;", 2, n + 22);
        faulty(s + "sitter at 3;", 2, n + 10);
        faulty(s + "sitter 1;", 1, n + 7);
        String things = "thing worth 0 at 0 from 0;".repeat(8);
        sound(s + things, 9);
        faulty(s + things + "thing", 3, n + things.length());
        faulty(s + things + "thing worth 1000", 3, n + things.length());
        faulty(s + things + "things", 1, n + things.length());
        String rules = "rule 0 to 0 on ebb to 0;".repeat(6);
        sound(s + rules, 7);
        faulty(s + rules + " rule 9", 3, n + rules.length() + 1);
        String sitters = "sitter at 0;".repeat(3);
        sound(s + sitters, 4);
        faulty(s + sitters + "sitter;", 3, n + sitters.length());
        sound(s + "beach 1;".repeat(100), 101);
    }

    // Promises 6 to 9.
    private static void tellings() {
        EbbWreck x = told(BAY);
        due("cell 3 0, the later current", x.cell(3, 0), 2);
        due("cell 3 1", x.cell(3, 1), -1);
        due("cell 3 2", x.cell(3, 2), 0);
        due("cell 4 1", x.cell(4, 1), -3);
        due("cell 0 0, no current", x.cell(0, 0), 0);
        due("cell 5 2", x.cell(5, 2), 1);
        due("cell 5 3", x.cell(5, 3), -1000);
        due("cell 5 -1", x.cell(5, -1), -1000);
        due("cell 6", x.cell(6, 0), -1000);
        due("cell -1", x.cell(-1, 0), -1000);
        due("thing 1 0", x.thing(1, 0), 50);
        due("thing 1 1", x.thing(1, 1), 1);
        due("thing 1 2", x.thing(1, 2), 4);
        due("thing 1 3", x.thing(1, 3), -2);
        due("thing 5", x.thing(5, 0), -2);
        due("thing -1", x.thing(-1, 0), -2);
        due("rule 1 0", x.rule(1, 0), 0);
        due("rule 1 1", x.rule(1, 1), 5);
        due("rule 1 2", x.rule(1, 2), 5);
        due("rule 1 3", x.rule(1, 3), 2);
        due("rule 3 2, like phases once", x.rule(3, 2), 2);
        due("rule 1 4", x.rule(1, 4), -2);
        due("rule 4", x.rule(4, 0), -2);
        due("rule -1", x.rule(-1, 0), -2);
        due("sitter 2", x.sitter(2), 0);
        due("sitter 3", x.sitter(3), -2);
        due("sitter -1", x.sitter(-1), -2);
    }

    // Promises 10, 11, 32, 33.
    private static void tides() {
        EbbWreck x = told(BAY);
        int[] round = {0, 0, 0, 1, 2, 2, 2, 1};
        int[] left = {3, 2, 1, 1, 3, 2, 1, 1};
        int[] ahead = {0, 0, 0, 0, 1, 1, 1, 1};
        for (int h = 0; h < 24; h++) {
            due("phase " + h, x.phase(h), round[h % 8]);
            due("lasts " + h, x.lasts(h), left[h % 8]);
            due("slacks " + h, x.slacks(h), h / 8 * 2 + ahead[h % 8]);
        }
        due("phase last", x.phase(2000000000), 0);
        due("phase above", x.phase(2000000001), -2);
        due("phase below", x.phase(-1), -2);
        due("lasts last", x.lasts(2000000000), 3);
        due("lasts above", x.lasts(2000000001), -2);
        due("lasts below", x.lasts(-1), -2);
        due("slacks last", x.slacks(2000000000), 500000000);
        due("slacks above", x.slacks(2000000001), -2);
        due("slacks below", x.slacks(-1), -2);
        due("next it, too", x.next(1, 0), 1);
        due("next slack", x.next(4, 1), 7);
        due("next flood", x.next(3, 0), 8);
        due("next ebb", x.next(7, 2), 12);
        due("next last", x.next(1000000000, 2), 1000000004);
        due("next above", x.next(1000000001, 2), -2);
        due("next below", x.next(-1, 2), -2);
        due("next phase 3", x.next(0, 3), -2);
        due("next phase -1", x.next(0, -1), -2);
        EbbWreck bare = told(BARE);
        due("no slack", bare.next(0, 1), -1);
        due("bare ebb", bare.next(0, 2), 1);
        due("bare lasts", bare.lasts(1), 1);
        due("bare slacks", bare.slacks(2000000000), 0);
        EbbWreck longest = told("shore cells 3 flood 12 slack 6 ebb 12 odds 0;");
        due("round of 36", longest.phase(35), 1);
        due("round anew", longest.phase(36), 0);
        due("ebb's last", longest.phase(29), 2);
        due("slack's left", longest.lasts(30), 6);
        due("slacks of all", longest.slacks(36), 12);
    }

    // Promises 12 and 13.
    private static void drifting() {
        EbbWreck x = told(BAY);
        due("flood", x.drifts(3, 1), 5);
        due("to the last, not beyond", x.drifts(4, 0), 5);
        due("ebb", x.drifts(4, 4), 1);
        due("slack", x.drifts(4, 3), 4);
        due("of a beach", x.drifts(5, 0), 5);
        due("last hour", x.drifts(2, 2000000000), 3);
        due("hour above", x.drifts(2, 2000000001), -2);
        due("hour below", x.drifts(2, -1), -2);
        due("cell above", x.drifts(6, 0), -2);
        due("cell below", x.drifts(-1, 0), -2);
        due("at 0 0", x.at(0, 0), 2);
        due("at 0 1", x.at(0, 1), 3);
        due("at 0 2", x.at(0, 2), 5);
        due("it stays", x.at(0, 400), 5);
        due("not thrown in yet", x.at(1, 3), -1);
        due("at its first", x.at(1, 4), 1);
        due("slack keeps", x.at(4, 4), 3);
        due("at 401", x.at(0, 401), -2);
        due("at -1", x.at(0, -1), -2);
        due("at thing 5", x.at(5, 0), -2);
        EbbWreck ends = told("shore cells 4 flood 2 slack 0 ebb 2 odds 0; current 1 flood back 3 ebb 3;"
                + "current 0 flood back 1 ebb 3; current 3 flood back 2 ebb 3;");
        due("to the first, not beyond", ends.drifts(1, 0), 0);
        due("first stays", ends.drifts(0, 1), 0);
        due("to the last", ends.drifts(1, 2), 3);
        due("over three", ends.drifts(0, 3), 3);
    }

    // Promises 14 to 18 and 30.
    private static void comingUp() {
        EbbWreck x = told(BAY);
        int[] hours = {2, 5, 3, 7, 7};
        int[] cells = {5, 0, 5, 5, 0};
        int[] whose = {1, 2, -1, -1, 0};
        for (int th = 0; th < 5; th++) {
            due("comes " + th, x.comes(th), hours[th]);
            due("beach " + th, x.beach(th), cells[th]);
            due("whose " + th, x.whose(th), whose[th]);
        }
        for (int th = -1; th <= 5; th += 6) {
            due("comes none", x.comes(th), -2);
            due("beach none", x.beach(th), -2);
            due("whose none", x.whose(th), -2);
        }
        int[] has = {9, 100, 50, 0, 0, 0};
        for (int p = 0; p < 6; p++) {
            due("has " + p, x.has(p), has[p]);
        }
        due("has 6", x.has(6), -2);
        due("has -1", x.has(-1), -2);
        due("line 5", x.line(5), 1 + 4 + 8);
        due("line 0", x.line(0), 2 + 16);
        due("line 3", x.line(3), 0);
        due("line 6", x.line(6), -2);
        due("line -1", x.line(-1), -2);
        due("richest", x.richest(), 1);
        due("richest of none", told(BARE).richest(), 0);
        EbbWreck never = told(BARE + "beach 0; thing worth 5 at 2 from 99;");
        due("never comes", never.comes(0), -1);
        due("never a beach", never.beach(0), -1);
        due("nobody's", never.whose(0), -1);
        due("it is there", never.at(0, 400), 2);
        // One cell on in each round of 25 hours.
        EbbWreck slow = told("shore cells 12 flood 1 slack 6 ebb 12 odds 0; beach 11; thing worth 1 at 0 from 0;"
                + "thing worth 1 at 0 from 99; rule 11 to 11 on slack to 4;"
                + currents(11, "flood 1 ebb 0"));
        due("ten rounds of 25 and one", slow.comes(0), 251);
        due("from 99: flood in 100, 10 rounds on", slow.comes(1), 351);
        due("at slack", slow.whose(1), 4);
        due("has both", slow.has(4), 2);
        // One cell back in each round of 25 hours, by ebb.
        EbbWreck edge = told("shore cells 12 flood 12 slack 6 ebb 1 odds 0; beach 0; thing worth 1 at 11 from 99;"
                + "thing worth 1 at 11 from 18; thing worth 1 at 11 from 19;" + currents(12, "flood 0 ebb back 1"));
        // Ebb is hour 18, 43, 68, 93, 118 .. 368, 393; the 11th from 118 on is 368, so it comes up in 369.
        due("eleven ebbs on", edge.comes(0), 369);
        due("from just that ebb", edge.comes(1), 18 + 250 + 1);
        due("from just behind it", edge.comes(2), 43 + 250 + 1);
        EbbWreck last = told("shore cells 3 flood 1 slack 0 ebb 1 odds 0; beach 2; thing worth 3 at 0 from 0;");
        due("pushed in 398 and 399", last.shove(0, 398, 0) + last.shove(0, 399, 0), 3);
        due("comes up in 400", last.comes(0), 400);
        due("on 2", last.beach(0), 2);
        due("at 399", last.at(0, 399), 1);
        last.undo();
        due("pushed in 400", last.shove(0, 400, 0), 2);
        due("that is too late", last.comes(0), -1);
    }

    private static String currents(int cells, String steps) {
        StringBuilder s = new StringBuilder();
        for (int c = 0; c < cells; c++) {
            s.append("current ").append(c).append(' ').append(steps).append(';');
        }
        return s.toString();
    }

    // Promises 19 to 23.
    private static void rulesSaying() {
        EbbWreck x = told(BAY);
        due("argued", x.argued(), 1 + 2);
        due("gaps flood", x.gaps(0), 0);
        due("gaps slack", x.gaps(1), 32);
        due("gaps ebb", x.gaps(2), 0);
        due("gaps 3", x.gaps(3), -2);
        due("gaps -1", x.gaps(-1), -2);
        due("idle", x.idle(), 4);
        due("without 0 2", x.without(0, 2), 150);
        due("without 0 1", x.without(0, 1), 0);
        due("without 1 3", x.without(1, 3), 50);
        due("without 3 0", x.without(3, 0), 0);
        due("without 4", x.without(4, 0), -2);
        due("without -1", x.without(-1, 0), -2);
        due("without party 6", x.without(0, 6), -2);
        due("without party -1", x.without(0, -1), -2);
        due("strike 2", x.strike(2), 0);
        due("strike 3", x.strike(3), 1);
        due("strike 1", x.strike(1), -1);
        due("strike 6", x.strike(6), -2);
        due("strike -1", x.strike(-1), -2);
        EbbWreck bare = told(BARE + "rule 0 to 2 on flood slack ebb to 0;");
        due("no beach: idle", bare.idle(), 1);
        due("no beach: no gap", bare.gaps(1), 0);
        due("nothing argued", bare.argued(), 0);
        EbbWreck like = told(BARE + "beach 1; thing worth 8 at 1 from 0; rule 1 to 1 on ebb to 4; rule 0 to 2 on ebb to 4;"
                + "rule 0 to 2 on ebb flood to 5; rule 0 to 1 on ebb to 5;");
        due("on a beach in its first hour", like.at(0, 0), 1);
        due("comes up an hour later", like.comes(0), 1);
        due("argued by the third", like.argued(), 1);
        due("idle second and fourth", like.idle(), 2 + 8);
        due("strike of a double rule", like.strike(5), -1);
        due("first of several", told(BARE + "beach 1; thing worth 8 at 1 from 0; thing worth 8 at 1 from 1;"
                + "rule 1 to 1 on ebb to 1; rule 1 to 1 on flood to 2; rule 1 to 1 on flood ebb to 3;").strike(3), 0);
    }

    // Promises 24 to 27 and 29.
    private static void pushed() {
        EbbWreck x = told(BAY);
        due("its already", x.pushes(0, 1), 0);
        due("no push", x.push(0, 1, 0), -1);
        due("no way", x.way(0, 1, 0), -1);
        due("two", x.pushes(0, 0), 2);
        due("hour 0", x.push(0, 0, 0), 0);
        due("back", x.way(0, 0, 0), 1);
        due("hour 1", x.push(0, 0, 1), 1);
        due("back, too", x.way(0, 0, 1), 1);
        due("no third", x.push(0, 0, 2), -1);
        due("no third way", x.way(0, 0, 2), -1);
        due("push -1", x.push(0, 0, -1), -1);
        due("three", x.pushes(0, 2), 3);
        due("third hour", x.push(0, 2, 2), 2);
        due("third way", x.way(0, 2, 2), 1);
        due("party 3 is idle", x.pushes(0, 3), -1);
        due("push of none", x.push(0, 3, 0), -1);
        due("soonest now", x.soonest(0, 1), 1);
        due("soonest 2", x.soonest(0, 2), 5);
        due("soonest none", x.soonest(0, 3), -1);
        // Back in 6 it drifts from 4 to 1; back in 8 or 9 it is in 3 at slack, and in 15 on 0.
        due("of a beach's thing", x.pushes(3, 0), 2);
        due("off the beach in its first hour", x.push(3, 0, 0), 6);
        due("all of 1", x.all(1), -1);
        int[][] bad = {{5, 0}, {-1, 0}, {0, 6}, {0, -1}};
        for (int[] b : bad) {
            due("pushes bad", x.pushes(b[0], b[1]), -2);
            due("push bad", x.push(b[0], b[1], 0), -2);
            due("way bad", x.way(b[0], b[1], 0), -2);
            due("soonest bad", x.soonest(b[0], b[1]), -2);
            due("ward bad", x.ward(b[0], b[1]), -2);
        }
        due("all 6", x.all(6), -2);
        due("all -1", x.all(-1), -2);
        x.shove(0, 0, 1);
        due("pushes done aside", x.pushes(0, 1), 0);
        due("pushes done aside, too", x.pushes(0, 0), 2);
        due("all without things", told(BARE).all(3), 0);
        // Nothing moves by itself: 5 cells to go on, from hour 95 on it is just in time.
        String still = "shore cells 6 flood 1 slack 0 ebb 1 odds 0; beach 5; rule 5 to 5 on flood ebb to 0;";
        EbbWreck calm = told(still + "thing worth 1 at 0 from 95; thing worth 1 at 0 from 96; thing worth 1 at 3 from 0;"
                + "thing worth 1 at 4 from 99;");
        due("to hour 100", calm.pushes(0, 0), 5);
        due("the last of them", calm.push(0, 0, 4), 99);
        due("soonest 100", calm.soonest(0, 0), 100);
        due("too late", calm.pushes(1, 0), -1);
        due("soonest too late", calm.soonest(1, 0), -1);
        due("all with a NONE", calm.all(0), -1);
        due("two on", calm.pushes(2, 0), 2);
        due("at once", calm.push(2, 0, 1), 1);
        due("on", calm.way(2, 0, 1), 0);
        due("in 99", calm.push(3, 0, 0), 99);
        EbbWreck sum = told(still + "thing worth 1 at 0 from 0; thing worth 1 at 3 from 9; thing worth 1 at 5 from 9;");
        due("all", sum.all(0), 7);
        EbbWreck far = told(still + "rule 0 to 0 on ebb to 1; beach 0; thing worth 1 at 2 from 0; thing worth 1 at 1 from 1;"
                + "thing worth 1 at 1 from 2;");
        due("back to 0 at flood is nobody's", far.soonest(0, 1), 3);
        due("two back", far.pushes(0, 1), 2);
        due("first as soon as can be", far.push(0, 1, 0), 0);
        due("then it waits", far.push(0, 1, 1), 2);
        due("back 2", far.way(0, 1, 1), 1);
        due("in 1 it would be flood", far.push(1, 1, 0), 2);
        due("in 2 it is ebb in 3", far.push(2, 1, 0), 2);
    }

    // Promise 28.
    private static void wards() {
        EbbWreck x = told(BAY);
        due("one push", x.ward(0, 1), 1);
        due("none needed", x.ward(1, 1), 0);
        due("of nobody", x.ward(2, 4), 0);
        EbbWreck held = told("shore cells 3 flood 1 slack 0 ebb 1 odds 0; beach 0; beach 1; beach 2;"
                + "rule 0 to 2 on flood ebb to 2; thing worth 1 at 1 from 0; rule 1 to 1 on flood to 3;");
        due("by none", held.ward(0, 2), -1);
        due("another's", held.ward(0, 3), 0);
        EbbWreck late = told("shore cells 3 flood 12 slack 0 ebb 12 odds 0; beach 2; current 1 flood 1 ebb 0;"
                + "rule 2 to 2 on flood ebb to 2; thing worth 1 at 1 from 96; thing worth 1 at 1 from 99;");
        due("afloat in 100 by a push back", late.ward(0, 2), 1);
        due("just in 100", late.pushes(1, 2), 0);
        due("warded in 99", late.ward(1, 2), 1);
    }

    // Promise 31.
    private static void meeting() {
        EbbWreck x = told("shore cells 6 flood 2 slack 1 ebb 2 odds 0; beach 5; current 1 flood 1 ebb 0; current 2 flood 1 ebb 0;"
                + "current 3 flood 0 ebb 1; thing worth 1 at 1 from 0; thing worth 1 at 3 from 1; thing worth 1 at 4 from 0;"
                + "thing worth 1 at 5 from 2; thing worth 1 at 5 from 2; thing worth 1 at 5 from 3;");
        due("in 2 both in 3", x.meet(0, 1), 2);
        due("alike", x.meet(1, 0), 2);
        due("in 4 by ebb in 3", x.meet(0, 2), 4);
        due("afloat on a beach", x.meet(3, 4), 2);
        due("one has come up", x.meet(3, 5), -1);
        due("one twice", x.meet(1, 1), -2);
        due("none such", x.meet(0, 6), -2);
        due("none such first", x.meet(-1, 0), -2);
        x.shove(0, 1, 1);
        due("pushed as done", x.meet(0, 1), 10);
        x.anew();
        due("taken back", x.meet(0, 1), 2);
        EbbWreck calm = told(BARE + "thing worth 1 at 0 from 0; thing worth 1 at 1 from 0;");
        due("never", calm.meet(0, 1), -1);
        calm.shove(0, 399, 0);
        due("in 400", calm.meet(0, 1), 400);
        due("in 0", told(BARE + "thing worth 1 at 1 from 0; thing worth 1 at 1 from 0;").meet(0, 1), 0);
        calm.anew();
        calm.shove(0, 400, 0);
        due("not behind 400", calm.meet(0, 1), -1);
    }

    // Promises 34 and 35.
    private static void eddies() {
        EbbWreck x = told("shore cells 6 flood 2 slack 1 ebb 1 odds 0; beach 5; current 0 flood 1 ebb 0;"
                + "current 1 flood 1 ebb 0; current 2 flood 0 ebb back 2; current 4 flood 1 ebb 0;");
        due("0 1 2 .. 0", x.eddy(0), 1);
        due("1 2 2 .. 0 and then again", x.eddy(1), 2);
        due("stays", x.eddy(3), 1);
        due("comes up", x.eddy(4), -1);
        due("beach", x.eddy(5), -1);
        due("eddy 6", x.eddy(6), -2);
        due("eddy -1", x.eddy(-1), -2);
        due("stuck", x.stuck(), 1 + 2 + 4 + 8);
        // On a beach just as the tide begins: back in 5 in hour 2.
        EbbWreck just = told("shore cells 3 flood 1 slack 0 ebb 1 odds 0; beach 2; current 2 flood back 1 ebb 0;"
                + "current 1 flood 0 ebb 1;");
        due("just then", just.eddy(2), -1);
        due("never", just.eddy(0), 1);
        due("stuck of these", just.stuck(), 1);
        String slow = "shore cells 12 flood 12 slack 6 ebb 12 odds 0;" + currents(11, "flood 0 ebb 0");
        due("no current at all", told(slow).stuck(), 4095);
        due("no beach", told(BARE).stuck(), 7);
        due("round and round", told("shore cells 4 flood 1 slack 0 ebb 1 odds 0; current 0 flood 1 ebb 0; current 1 flood 1 ebb 0;"
                + "current 2 flood 1 ebb 0;").eddy(0), 4);
    }

    // Promises 36 and 37.
    private static void drops() {
        EbbWreck x = told(BAY);
        // Thrown in hour 0 into cell 1 it goes 2, 3, 5 and comes up in 3 at slack: nobody's.
        // Cell 2 is in 5 in 2, 3 and 4 in 1, 5 in 1, all at flood: party 1's; 0 is on 0 in 1: party 2's.
        due("drop 1 0", x.drop(1, 0), 4 + 8 + 16 + 32);
        due("drop 2 0", x.drop(2, 0), 1);
        due("drop 0 0", x.drop(0, 0), 0);
        due("drop party 3", x.drop(3, 0), 0);
        due("drop hour 99", x.drop(2, 99) >= 0 ? 0 : 1, 0);
        due("drop hour 100", x.drop(2, 100), -2);
        due("drop hour -1", x.drop(2, -1), -2);
        due("drop party 6", x.drop(6, 0), -2);
        due("drop party -1", x.drop(-1, 0), -2);
        due("drops 1", x.drops(1), 0);
        due("drops 3", x.drops(3), -1);
        due("drops 6", x.drops(6), -2);
        due("drops -1", x.drops(-1), -2);
        // By ebb all go back to 0; by flood nothing moves: in hour 11, the last flood, only 0 is on a beach at ebb.
        EbbWreck y = told("shore cells 4 flood 12 slack 0 ebb 12 odds 0; beach 0;" + currents(4, "flood 0 ebb back 3")
                + "rule 0 to 0 on ebb to 1; rule 0 to 0 on flood to 2;");
        due("hour 11", y.drop(1, 11), 15);
        due("hour 0", y.drop(1, 0), 14);
        due("flood 0", y.drop(2, 0), 1);
        due("first of most", y.drops(1), 11);
        due("hour 23, up in 24 at flood", y.drop(2, 23), 15);
        due("first of most 2", y.drops(2), 23);
        // Thrown in 96 into 2 it goes up and down the shore, two cells a round of 32 hours, and is on 1 in the ebb's
        // second hour of the tenth round: in 384 + 9 + 6 + 1.
        due("just in 400", swapping(9, 6).drop(0, 96) >> 2 & 1, 1);
        due("in 401, with flood 11 and slack 5", swapping(11, 5).drop(0, 96) >> 2 & 1, 0);
    }

    /** By flood 0 and 1, 2 and 3, .. are swapped each hour, by ebb 1 and 2, 3 and 4, .. */
    private static EbbWreck swapping(int flood, int slack) {
        StringBuilder s = new StringBuilder("shore cells 12 flood " + flood + " slack " + slack + " ebb 11 odds 0; beach 1;");
        s.append("rule 1 to 1 on flood slack ebb to 0;");
        for (int c = 0; c < 12; c++) {
            String on = c == 0 || c == 11 ? "0" : "1";
            s.append("current ").append(c).append(c % 2 == 0 ? " flood 1 ebb back " + on : " flood back 1 ebb " + on).append(';');
        }
        return told(s.toString());
    }

    // Promises 39 and 40.
    private static void originsAndWhen() {
        EbbWreck x = told(BAY);
        due("same hour", x.origins(0, 0, 2), 4);
        due("same hour on a beach", x.origins(7, 7, 5), 32);
        due("an hour on", x.origins(0, 1, 3), 4);
        due("an hour on, on a beach", x.origins(0, 1, 5), 8 + 16 + 32);
        due("two on: come up ahead are not", x.origins(0, 2, 5), 4);
        due("none", x.origins(0, 1, 1), 0);
        due("beach 0 in 1", x.origins(0, 1, 0), 1);
        due("less", x.origins(2, 1, 0), -2);
        due("hour 400", x.origins(400, 400, 0), 1);
        due("hour 401", x.origins(400, 401, 0), -2);
        due("from -1", x.origins(-1, 0, 0), -2);
        due("from 401", x.origins(401, 401, 0), -2);
        due("cell 6", x.origins(0, 0, 6), -2);
        due("cell -1", x.origins(0, 0, -1), -2);
        due("when", x.when(2, 2, 5), 0);
        due("when latest", x.when(5, 9, 5), 8);
        due("when by ebb", x.when(3, 7, 0), 4);
        due("when: in 3 it waits, but 4 is later", x.when(4, 6, 0), 4);
        due("when none", x.when(3, 7, 5), -1);
        due("when no beach", x.when(2, 1, 3), -1);
        due("when 0", x.when(5, 0, 5), -1);
        due("when 400", x.when(5, 400, 5), 399);
        due("when 401", x.when(5, 401, 5), -2);
        due("when -1", x.when(5, -1, 5), -2);
        due("when from 6", x.when(6, 1, 5), -2);
        due("when from -1", x.when(-1, 1, 5), -2);
        due("when cell 6", x.when(5, 1, 6), -2);
        due("when cell -1", x.when(5, 1, -1), -2);
    }

    private static void writeAll(EbbWreck x, int slot, int width, long... numbers) {
        x.row(slot, width, numbers.length);
        for (int i = 0; i < numbers.length; i++) {
            x.write(slot, i, numbers[i]);
        }
    }

    // Promises 41 to 44.
    private static void floats() {
        EbbWreck x = told(BAY);
        x.row(0, 0, 0);
        due("an empty row fits all", x.fits(0), 49);
        due("least flood", x.fit(0, 0), 0);
        due("least ebb", x.fit(0, 1), 0);
        due("fit what 2", x.fit(0, 2), -1000);
        due("fit what -1", x.fit(0, -1), -1000);
        writeAll(x, 1, 1, 0, 0, 2, 2);
        due("flood 1, any ebb", x.fits(1), 7);
        due("flood", x.fit(1, 0), 1);
        due("ebb", x.fit(1, 1), 0);
        writeAll(x, 1, 0, 0, 0, 2, 5);
        due("flood 3", x.fits(1), 7);
        writeAll(x, 1, 0, 2, 0, 2, 5);
        due("flood 2 or 3, cut at the end", x.fits(1), 14);
        due("the least of these", x.fit(1, 0), 2);
        writeAll(x, 1, 2, 2, 4, 4, 2);
        due("same hour, same cell", x.fits(1), 49);
        writeAll(x, 1, 2, 2, 4, 4, 3);
        due("same hour, another cell", x.fits(1), 0);
        due("none fits 0", x.fit(1, 0), -1000);
        due("none fits 1", x.fit(1, 1), -1000);
        due("nothing to ask", x.ask(1), -1);
        due("none is left", x.leaves(1), 0);
        writeAll(x, 1, 3, 2, 3, 4, 2);
        due("slack tells nothing", x.fits(1), 49);
        writeAll(x, 2, 3, 5, 0, 7, 2);
        // Flood cuts at 5 if on (or 0), then 3 ebbs back 1; flood back 1 to 2, ebb 0; flood back so that ebbs end in 2:
        // -2, -3 and 0: 0 + 3 e is never 2. So (0..3, -1) and (-1, 0).
        due("five", x.fits(2), 5);
        due("least together, least by flood", x.fit(2, 0), -1);
        due("then by ebb", x.fit(2, 1), 0);
        writeAll(x, 2, 3, 5, 0, 7, 2, 2, 0, 1, 2);
        due("flood 0 alone", x.fits(2), 1);
        due("flood 0", x.fit(2, 0), 0);
        due("ebb -1", x.fit(2, 1), -1);
        due("one pair: nothing to ask", x.ask(2), -1);
        due("one stays", x.leaves(2), 1);
        EbbWreck y = told("shore cells 12 flood 2 slack 4 ebb 2 odds 0;");
        writeAll(y, 3, 1, 0, 0, 2, 2, 4, 0, 2, 6);
        due("seven by ebb", y.fits(3), 7);
        // Hour 12 is a round on: a cell and 2, then 2 ebb, cut at 0 and 11. From cell 3: 5 + 2 ebb is 0 (cut), 1, 3, 5,
        // 7, 9, 11, all apart; from cell 2 two are in 0.
        due("ask", y.ask(3), 3);
        due("leaves", y.leaves(3), 1);
    }

    // Promises 41 to 44: what is amiss.
    private static void floatsAmiss() {
        EbbWreck x = told(BAY);
        int[] bad = {-1, 4, Integer.MIN_VALUE};
        for (int slot : bad) {
            due("fits no slot", x.fits(slot), -2);
            due("fit no slot", x.fit(slot, 0), -1000);
            due("ask no slot", x.ask(slot), -2);
            due("leaves no slot", x.leaves(slot), -2);
        }
        due("fits nothing", x.fits(0), -6);
        due("fit nothing", x.fit(0, 0), -1000);
        due("ask nothing", x.ask(0), -6);
        due("leaves nothing", x.leaves(0), -6);
        long[][] rows = {{6, 0, 1, 0}, {-1, 0, 1, 0}, {0, -1, 1, 0}, {0, 401, 401, 0}, {0, 0, 401, 0}, {0, 0, 1, 6},
            {0, 0, 1, -1}, {0, 2, 1, 0}, {0, 0, 1}, {0, 0, 1, 0, 0}, {0, 1L << 32, 1L << 33, 0}, {1L << 40, 0, 0, 0},
            {0, 0, 0, 0, 0, 0, 1, 6}};
        for (long[] r : rows) {
            writeAll(x, 0, 3, r);
            due("fits amiss", x.fits(0), -2);
            due("fit amiss", x.fit(0, 1), -1000);
            due("ask amiss", x.ask(0), -2);
            due("leaves amiss", x.leaves(0), -2);
        }
        writeAll(x, 0, 1, 5, 400, 400, 5);
        due("the last hour", x.fits(0), 49);
        writeAll(x, 0, 0, 5, 0, 128, 5);
        due("128 in a byte is below 0", x.fits(0), -2);
        writeAll(x, 0, 0, 5, 127, 127, 5);
        due("127 in a byte", x.fits(0), 49);
        writeAll(x, 0, 0, 256 + 5, 512, 1024, 5);
        due("cut to a byte", x.fits(0), 49);
    }

    // Promises 38, 45, 46.
    private static void sitting() {
        EbbWreck x = told(BAY);
        due("share 0", x.share(0), 15 + 3);
        due("share 1", x.share(1), 15 + 3);
        due("share 2", x.share(2), 0);
        due("share 3", x.share(3), -2);
        due("share -1", x.share(-1), -2);
        due("three there", x.seat(2, 5), 10 + 2);
        due("as he sits", x.seat(0, 5), 18);
        due("elsewhere", x.seat(0, 0), 0);
        due("no beach", x.seat(0, 3), 0);
        due("seat cell 6", x.seat(0, 6), -2);
        due("seat cell -1", x.seat(0, -1), -2);
        due("seat sitter 3", x.seat(3, 0), -2);
        due("seats 2", x.seats(2), 5);
        due("seats 3", x.seats(3), -2);
        due("seats -1", x.seats(-1), -2);
        due("sit", x.sit(1, 2), 5);
        due("alone", x.share(0), 37);
        due("gone", x.share(1), 0);
        due("first of several", told(BARE + "sitter at 2;").seats(0), 0);
    }

    // Promises 47 and 48.
    private static void resting() {
        EbbWreck x = told(BAY);
        due("all on 5", x.rests(), 1);
        due("rest 0", x.rest(0), 5);
        due("rest 2", x.rest(2), 5);
        due("rest 3", x.rest(3), -2);
        due("rest -1", x.rest(-1), -2);
        due("nobody: one way", told(BARE).rests(), 1);
        due("no beach: no way", told(BARE + "sitter at 0;").rests(), 0);
        due("no beach: no rest", told(BARE + "sitter at 0;").rest(0), -1);
        // Worth 10 comes up on 0 and on 2 at slack: two SITTERS part, or (worth 20) both are as well by sharing.
        String two = "shore cells 3 flood 1 slack 1 ebb 1 odds 0; beach 0; beach 2; sitter at 1; sitter at 1;";
        EbbWreck part = told(two + "thing worth 10 at 0 from 0; thing worth 10 at 2 from 0;");
        due("two ways to part", part.rests(), 2);
        due("the first sits first", part.rest(0), 0);
        due("the other not", part.rest(1), 2);
        EbbWreck both = told(two + "thing worth 21 at 2 from 0; thing worth 10 at 0 from 0;");
        // On 2 both have 10, on 0 one has 10: nobody has more by going, and whoever is on 0 has 10, by going 10.
        due("three ways", both.rests(), 3);
        due("the least row", both.rest(0), 0);
        due("and its other", both.rest(1), 2);
        due("all alike where nothing comes", told(two).rests(), 4);
    }

    // Promises 49 and 50.
    private static void clocks() {
        EbbWreck x = told(BAY);
        due("right", x.clock(1, 0), 100);
        due("one ahead", x.clock(1, 1), 7);
        due("one behind", x.clock(1, -1), 130);
        due("three behind: ahead of 0", x.clock(1, -3), 30);
        due("a round", x.clock(1, 8), 100);
        due("a round back", x.clock(1, -8), 100);
        due("at 5 in ebb", x.clock(2, -1), 50 + 7 + 9);
        due("clock 20", x.clock(0, 20) < 0 ? 1 : 0, 0);
        due("clock 21", x.clock(1, 21), -2);
        due("clock -20", x.clock(0, -20) < 0 ? 1 : 0, 0);
        due("clock -21", x.clock(1, -21), -2);
        due("clock party 6", x.clock(6, 0), -2);
        due("clock party -1", x.clock(-1, 0), -2);
        due("set 1", x.set(1), -1);
        due("never any: 0", x.set(5), 0);
        due("set 6", x.set(6), -1000);
        due("set -1", x.set(-1), -1000);
        EbbWreck tie = told("shore cells 3 flood 1 slack 1 ebb 1 odds 0; beach 0; thing worth 4 at 0 from 0;"
                + "rule 0 to 0 on flood ebb to 2;");
        due("up at slack", tie.whose(0), -1);
        due("below first", tie.set(2), -1);
        EbbWreck above = told("shore cells 3 flood 1 slack 1 ebb 1 odds 0; beach 0; thing worth 4 at 0 from 0;"
                + "rule 0 to 0 on ebb to 2;");
        due("above", above.set(2), 1);
    }

    // Promises 51 to 54.
    private static void acts() {
        EbbWreck x = told(BAY);
        due("nothing to undo", x.undo(), -5);
        due("nothing to do anew", x.anew(), 0);
        due("sit", x.sit(0, 3), 5);
        due("sits there", x.sitter(0), 3);
        due("sit again", x.sit(0, 3), 3);
        due("acts", x.count(9), 2);
        due("sit no sitter", x.sit(3, 0), -2);
        due("sit no cell", x.sit(0, 6), -2);
        due("sit cell -1", x.sit(0, -1), -2);
        due("shove", x.shove(0, 0, 1), 1);
        due("at 1", x.at(0, 1), 2);
        due("comes later", x.comes(0), 3);
        due("nobody's now", x.whose(0), -1);
        due("twice in an hour", x.shove(0, 0, 1), -5);
        due("nor on", x.shove(0, 0, 0), -5);
        due("another thing", x.shove(1, 0, 0), 1);
        due("not thrown in then: nothing", x.comes(1), 5);
        due("come up then: it counts", x.shove(0, 300, 0), 2);
        due("and does nothing", x.comes(0), 3);
        due("shove hour 401", x.shove(0, 401, 0), -2);
        due("shove hour -1", x.shove(0, -1, 0), -2);
        due("shove back 2", x.shove(0, 1, 2), -2);
        due("shove back -1", x.shove(0, 1, -1), -2);
        due("shove thing 5", x.shove(5, 1, 0), -2);
        due("undo", x.undo(), 4);
        due("undo 2", x.undo(), 3);
        due("undo 3", x.undo(), 2);
        due("as told", x.comes(0), 2);
        due("whose again", x.whose(0), 1);
        due("shove in that hour again", x.shove(0, 0, 0), 1);
        due("pushed on", x.at(0, 1), 5);
        due("undo 4", x.undo(), 2);
        due("undo 5", x.undo(), 1);
        due("still there", x.sitter(0), 3);
        due("undo 6", x.undo(), 0);
        due("sits as told", x.sitter(0), 5);
        due("none is left", x.undo(), -5);
        x.sit(0, 1);
        x.shove(0, 0, 1);
        x.sit(0, 2);
        due("anew", x.anew(), 3);
        due("sits as told again", x.sitter(0), 5);
        due("drifts as told", x.comes(0), 2);
        due("no acts", x.count(9), 0);
        due("first act", x.shove(0, 7, 0), 1);
        due("not again", x.shove(0, 7, 1), -5);
        EbbWreck edge = told(BARE + "thing worth 0 at 0 from 0; thing worth 0 at 2 from 0;");
        edge.shove(0, 5, 1);
        edge.shove(1, 5, 0);
        due("no cell ahead of the first", edge.at(0, 6), 0);
        due("none behind the last", edge.at(1, 6), 2);
    }

    // Promises 51 and 52: 40 acts.
    private static void actsBound() {
        EbbWreck x = told(BAY);
        for (int i = 0; i < 20; i++) {
            due("sit " + i, x.sit(2, i % 6), i == 0 ? 0 : (i - 1) % 6);
            due("shove " + i, x.shove(1, 100 + i, i % 2), i + 1);
        }
        due("forty", x.count(9), 40);
        due("no more sits", x.sit(2, 0), -5);
        due("no more shoves", x.shove(0, 0, 0), -5);
        due("unknown all the same", x.sit(3, 0), -2);
        due("unknown, too", x.shove(0, 401, 0), -2);
        due("he sits", x.sitter(2), 1);
        due("undo", x.undo(), 39);
        due("one more", x.shove(0, 0, 1), 1);
        due("anew", x.anew(), 40);
        due("seat", x.sitter(2), 0);
    }

    private static int draws(long seed, int odds, int hours) {
        long x = seed;
        int on = 0;
        for (int i = 0; i < hours; i++) {
            x = (1103515245L * x + 12345L) % 2147483648L;
            on += x / 65536 % 100 < odds ? 1 : 0;
        }
        return on;
    }

    // Promises 55 to 57.
    private static void gales() {
        String still = "shore cells 12 flood 1 slack 0 ebb 1 odds ";
        String rest = "; beach 11; beach 0; thing worth 1 at 1 from 0; thing worth 1 at 1 from 90; thing worth 1 at 11 from 3;"
                + "rule 11 to 11 on flood to 3; rule 11 to 11 on ebb to 4;";
        EbbWreck none = told(still + "0" + rest);
        due("no gale", none.drawn(5, 0, 0), -1);
        due("no beach", none.drawn(5, 0, 1), -1);
        due("nobody's", none.drawn(5, 0, 2), -1);
        due("never", none.waits(5, 20, 0), -1);
        due("no luck", none.luck(5, 20, 0, 3), 0);
        EbbWreck ever = told(still + "100" + rest);
        due("ten hours on", ever.drawn(5, 0, 0), 10);
        due("on 11", ever.drawn(5, 0, 1), 11);
        due("flood", ever.drawn(5, 0, 2), 3);
        due("from its first on", ever.drawn(0, 1, 0), 100);
        due("on the beach", ever.drawn(2000000000, 2, 0), 4);
        due("all lucky", ever.luck(2000000000, 20, 0, 3), 20);
        due("none", ever.luck(2000000000, 20, 0, 4), 0);
        due("waits", ever.waits(0, 1, 0), 11);
        ever.shove(0, 9, 1);
        due("pushed back in 9", ever.drawn(5, 0, 0), 11);
        due("the gale first, at the end", ever.drawn(5, 2, 0), 4);
        ever.shove(2, 3, 1);
        due("no cell on, then back", ever.drawn(5, 2, 0), 5);
        due("without a gale", ever.comes(2), -1);
        EbbWreck half = told(still + "37" + rest);
        for (int seed = 0; seed < 40; seed++) {
            int hour = 0;
            while (draws(seed * 48611L, 37, hour) < 10) {
                hour++;
            }
            due("drawn " + seed, half.drawn(seed * 48611, 0, 0), hour);
            due("whose drawn " + seed, half.drawn(seed * 48611, 0, 2), hour % 2 == 0 ? 3 : 4);
            int lucky = 0;
            for (int i = 0; i < 20; i++) {
                int h = 0;
                while (draws(seed + i, 37, h) < 10) {
                    h++;
                }
                lucky += h % 2 == 0 ? 1 : 0;
            }
            due("luck " + seed, half.luck(seed, 20, 0, 3), lucky);
        }
        int[][] bad = {{-1, 0}, {2000000001, 0}, {0, 3}, {0, -1}};
        for (int[] b : bad) {
            due("drawn bad", half.drawn(b[0], b[1], 0), -2);
            due("luck bad", half.luck(b[0], 1, b[1], 0), -2);
            due("waits bad", half.waits(b[0], 1, b[1]), -2);
        }
        due("drawn what 3", half.drawn(0, 0, 3), -2);
        due("drawn what -1", half.drawn(0, 0, -1), -2);
        due("luck n 0", half.luck(0, 0, 0, 0), -2);
        due("luck n 21", half.luck(0, 21, 0, 0), -2);
        due("luck party 6", half.luck(0, 1, 0, 6), -2);
        due("luck party -1", half.luck(0, 1, 0, -1), -2);
        due("waits n 0", half.waits(0, 0, 0), -2);
        due("waits n 21", half.waits(0, 21, 0), -2);
        firstOfSeveralBeaches();
    }

    /** By one draw it is on 1 or, pushed, on 2: as often on both, the first is due. */
    private static void firstOfSeveralBeaches() {
        EbbWreck x = told("shore cells 3 flood 1 slack 0 ebb 1 odds 50; beach 1; beach 2; thing worth 1 at 1 from 0;");
        for (int seed = 0; seed < 30; seed++) {
            int on = draws(seed, 50, 1) + draws(seed + 1, 50, 1);
            due("waits " + seed, x.waits(seed, 2, 0), on == 2 ? 2 : 1);
        }
    }

    // Promise 58.
    private static void rates() {
        EbbWreck x = told(BAY);
        due("rate", x.rate(0, 999), 100);
        due("again", x.rate(0, 0), 999);
        due("worth now", x.thing(0, 0), 0);
        due("has now", x.has(1), 0);
        due("rate above", x.rate(0, 1000), -2);
        due("rate below", x.rate(0, -1), -2);
        due("rate thing 5", x.rate(5, 1), -2);
        x.sit(0, 0);
        due("there were acts", x.rate(0, 5), -5);
        due("unknown all the same", x.rate(0, 1000), -2);
        x.undo();
        due("taken back", x.rate(0, 5), 0);
        due("anew keeps a rate", x.anew(), 0);
        due("so it does", x.thing(0, 0), 5);
    }

    // Promise 59.
    private static void counts() {
        EbbWreck x = told(BAY);
        x.row(3, 0, 0);
        x.row(1, 0, 5);
        x.feed(0, 0, 0, 0, 0);
        x.shove(0, 0, 0);
        int[] want = {6, 3, 1, 3, 50, 2, 5, 4, 3, 1, BAY_LINES, 20, 2};
        for (int what = 0; what < want.length; what++) {
            due("count " + what, x.count(what), want[what]);
        }
        due("count 13", x.count(13), -1);
        due("count -1", x.count(-1), -1);
    }

    // Promises 60 and 61.
    private static void images() {
        EbbWreck x = new EbbWreck();
        due("image 3", x.image(3), -2);
        due("image -1", x.image(-1), -2);
        due("back 3", x.back(3), -2);
        due("back -1", x.back(-1), -2);
        due("back of nothing", x.back(2), -6);
        due("image of no shore", x.image(2), 0);
        feedText(x, BAY);
        x.shore();
        x.rate(1, 77);
        x.shove(0, 0, 1);
        x.sit(0, 2);
        due("image 0", x.image(0), 0);
        x.shove(1, 4, 0);
        x.sit(0, 4);
        due("moved", x.comes(1) == 5 ? 1 : 0, 0);
        due("image 1", x.image(1), 0);
        feedText(x, BARE);
        x.shore();
        x.row(0, 0, 0);
        x.feed(1, 1, 1, 1, 1);
        due("back 0", x.back(0), 0);
        due("cells", x.count(0), 6);
        due("acts", x.count(9), 2);
        due("lines", x.count(10), BAY_LINES);
        due("the tape is as it was", x.count(11), 20);
        due("slots, too", x.count(12), 1);
        due("rated", x.thing(1, 0), 77);
        due("sits", x.sitter(0), 2);
        due("pushed", x.comes(0), 3);
        due("not pushed", x.comes(1), 5);
        due("undo", x.undo(), 1);
        due("sat", x.sitter(0), 5);
        due("back 1", x.back(1), 0);
        due("four acts", x.count(9), 4);
        due("sits there", x.sitter(0), 4);
        due("back 0 again, as it was", x.back(0), 0);
        due("two acts", x.count(9), 2);
        due("anew", x.anew(), 2);
        due("as told", x.comes(0), 2);
        due("back 2", x.back(2), 0);
        due("no shore", x.phase(0), -2);
        due("no shore, no undo", x.undo(), -2);
        due("image over another", x.image(0), 0);
        due("back to it", x.back(0), 0);
        due("none", x.count(0), 0);
    }

    // Promises 62 to 64.
    private static void slots() {
        EbbWreck x = told(BAY);
        due("row slot 4", x.row(4, 0, 0), -2);
        due("row slot -1", x.row(-1, 0, 0), -2);
        due("row width 4", x.row(0, 4, 0), -2);
        due("row width -1", x.row(0, -1, 0), -2);
        due("row 61", x.row(0, 0, 61), -2);
        due("row -1", x.row(0, 0, -1), -3);
        due("unknown first", x.row(4, 0, -1), -2);
        due("still nothing", x.count(12), 0);
        due("row 60", x.row(0, 3, 60), 0);
        due("write 59", x.write(0, 59, 0), 0);
        due("write 60", x.write(0, 60, 0), -7);
        due("write -1", x.write(0, -1, 0), -7);
        due("write slot 4", x.write(4, 0, 0), -2);
        due("write slot -1", x.write(-1, 0, 0), -2);
        due("write nothing", x.write(1, 0, 0), -6);
        due("row below 0: it stays", x.row(0, 0, -5), -3);
        due("so it does", x.write(0, 59, 0), 0);
        due("all 0: cell 0 in hour 0", x.fits(0), 49);
        writeAll(x, 1, 1, 0, 0, 2, 2);
        due("told", x.fits(1), 7);
        due("row in place of another", x.row(1, 1, 4), 0);
        due("all 0", x.fits(1), 49);
        writeAll(x, 1, 1, 0, 0, 65536 + 2, 2 - 65536);
        due("cut to two bytes", x.fits(1), 7);
        writeAll(x, 1, 2, 0, 0, (1L << 32) + 2, 2);
        due("cut to four bytes", x.fits(1), 7);
        writeAll(x, 1, 3, 0, 0, (1L << 32) + 2, 2);
        due("not cut", x.fits(1), -2);
        pastes();
    }

    private static void pastes() {
        EbbWreck x = told(BAY);
        writeAll(x, 0, 1, 0, 0, 2, 2);
        x.row(1, 1, 4);
        x.row(2, 2, 4);
        due("paste", x.paste(0, 0, 1, 0, 4), 0);
        due("as they were", x.fits(1), 7);
        due("unlike widths", x.paste(0, 0, 2, 0, 0), -8);
        due("nothing", x.paste(0, 0, 3, 0, 0), -6);
        due("nothing, from", x.paste(3, 0, 0, 0, 0), -6);
        due("slot 4", x.paste(4, 0, 0, 0, 0), -2);
        due("to 4", x.paste(0, 0, 4, 0, 0), -2);
        due("slot -1", x.paste(-1, 0, 3, 0, 0), -2);
        int max = Integer.MAX_VALUE;
        int min = Integer.MIN_VALUE;
        int[][] bad = {{1, 0, 4}, {0, 1, 4}, {-1, 0, 1}, {0, -1, 1}, {0, 0, -1}, {5, 0, 0}, {0, 5, 0}, {0, 0, 5},
            {max, 0, 1}, {0, max, 1}, {1, 1, max}, {max, max, max}, {0, 0, min}, {min, 0, min}, {max, 0, min}};
        for (int[] b : bad) {
            due("paste beyond", x.paste(0, b[0], 1, b[1], b[2]), -7);
        }
        due("nothing happened", x.fits(1), 7);
        due("none of none", x.paste(0, 4, 1, 4, 0), 0);
        // 0 0 2 2 within itself, one on: 0 0 0 2 fits nothing; back again from two on: 0 2 2 2.
        due("its own, on", x.paste(0, 0, 0, 1, 3), 0);
        due("0 0 0 2", x.fits(0), 0);
        writeAll(x, 0, 1, 9, 0, 0, 2, 2);
        due("its own, back", x.paste(0, 1, 0, 0, 4), 0);
        x.row(3, 1, 4);
        x.paste(0, 0, 3, 0, 4);
        due("0 0 2 2", x.fits(3), 7);
    }

    /** No call may throw or fail to end, whatever it is given, in any state. */
    private static void wildCalls() {
        int[] wild = {Integer.MIN_VALUE, -1001, -21, -2, -1, 0, 1, 2, 3, 5, 6, 8, 12, 20, 40, 60, 99, 100, 400, 401, 1200,
            2000000000, Integer.MAX_VALUE};
        String[] texts = {"", BARE, BAY};
        try {
            for (String text : texts) {
                for (java.lang.reflect.Method m : EbbWreck.class.getDeclaredMethods()) {
                    if (java.lang.reflect.Modifier.isPublic(m.getModifiers())) {
                        callWildly(m, told(text), wild);
                    }
                }
            }
        } catch (ReflectiveOperationException e) {
            due("a call threw " + e.getCause(), 1, 0);
        }
    }

    private static void callWildly(java.lang.reflect.Method m, EbbWreck x, int[] wild)
            throws ReflectiveOperationException {
        java.util.Random random = new java.util.Random(m.getName().length());
        Class<?>[] types = m.getParameterTypes();
        for (int i = 0; i < 250; i++) {
            Object[] args = new Object[types.length];
            for (int k = 0; k < args.length; k++) {
                int v = wild[random.nextInt(wild.length)];
                args[k] = types[k] == long.class ? (Object) ((long) v << 8 | 3) : (Object) v;
            }
            m.invoke(x, args);
        }
        asked++;
    }
}
