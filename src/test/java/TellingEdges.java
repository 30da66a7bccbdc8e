/** Edges of the text, of its faults, and of what it tells: Terms I, TOKENS, FAULTS, promises 1 to 9 and 59. */
final class TellingEdges {
    static final String BARE = "shore cells 3 flood 1 slack 0 ebb 1 odds 0;";
    static final String WIDE = "shore cells 12 flood 1 slack 0 ebb 1 odds 0;";
    /** Every number at the last value that is allowed, and as many lines of each kind as may be. */
    static final String FULL = "shore cells 12 flood 12 slack 6 ebb 12 odds 100; current 10 flood 3 ebb back 3;"
            + "current 0 flood back 3 ebb 3; beach 11; beach 0;" + "thing worth 999 at 11 from 99;".repeat(8)
            + "rule 11 to 11 on flood slack ebb to 5;".repeat(6) + "sitter at 11;".repeat(3);
    private static final int FULL_LINES = 1 + 2 + 2 + 8 + 6 + 3;
    private static final int MAX = Integer.MAX_VALUE;
    private static final int MIN = Integer.MIN_VALUE;

    private final Edges e;

    TellingEdges(Edges edges) {
        e = edges;
    }

    void all() {
        anObject();
        grammar();
        shoreLine();
        currents();
        beaches();
        things();
        rules();
        sitters();
        numbering();
        tokens();
        faults();
        newObject();
        feed();
        end();
        shore();
        fault();
        cell();
        thing();
        rule();
        sitter();
        count();
    }

    private void anObject() {
        e.says("An object", "An object is used for at most 512 calls after it has been made; what later calls answer is free.");
        EbbWreck x = e.told(BARE + "sitter at 1;");
        // A count, three feeds, an end and a shore were six calls.
        for (int calls = 6; calls < 510; calls++) {
            x.sitter(0);
        }
        e.is(x, 1, "sit", 0, 2);
        e.is(x, 2, "sitter", 0);
    }

    private static String without(String[] tokens, int left) {
        StringBuilder s = new StringBuilder();
        for (int i = 0; i < tokens.length; i++) {
            if (i != left) {
                s.append(tokens[i]).append(' ');
            }
        }
        return s.toString();
    }

    private static String with(String[] tokens, int at, String other) {
        String[] changed = tokens.clone();
        changed[at] = other;
        return without(changed, -1);
    }

    private static int place(String[] tokens, int at) {
        int place = 0;
        for (int i = 0; i < at; i++) {
            place += tokens[i].length() + 1;
        }
        return place;
    }

    /** Each TOKEN of a LINE is needed, at its place, once; what may be left out or said twice is given by number. */
    private void needsEach(String before, String line, int lines, String free) {
        String[] tokens = line.split(" ");
        int n = before.length();
        e.sound(before + line, lines);
        for (int i = 0; i < tokens.length; i++) {
            int at = n + place(tokens, i);
            boolean isFree = free.contains(" " + i + " ");
            if (!isFree) {
                e.faulty(before + without(tokens, i), 1, at);
                e.faulty(before + with(tokens, i, tokens[i] + " " + tokens[i]), 1, at + tokens[i].length() + 1);
            }
            e.faulty(before + with(tokens, i, "zz"), 1, at);
            e.faulty(before + with(tokens, i, "%"), 1, at);
            e.faulty(before + with(tokens, i, "shore x"), 1, i == 0 && n == 0 ? 6 : at);
            if (!tokens[i].equals(";")) {
                e.faulty(before + with(tokens, i, ";"), 1, at);
            }
            if (tokens[i].matches("[a-z]+")) {
                spelled(before, tokens, i, at);
            }
            if (!tokens[i].matches("\\d+")) {
                // In place of "back" a number may stand; the one behind it may not then.
                e.faulty(before + with(tokens, i, "1"), 1, tokens[i].equals("back") ? at + 2 : at);
            }
            if (i + 1 < tokens.length) {
                int stop = at + tokens[i].length();
                e.faulty((before + line).substring(0, stop), 1, stop);
            }
        }
    }

    /** Each letter of a word is looked at, and how many there are. */
    private void spelled(String before, String[] tokens, int i, int at) {
        String word = tokens[i];
        for (int k = 0; k < word.length(); k++) {
            e.faulty(before + with(tokens, i, word.substring(0, k) + "z" + word.substring(k + 1)), 1, at);
        }
        e.faulty(before + with(tokens, i, word.substring(1)), 1, at);
        e.faulty(before + with(tokens, i, word.substring(0, word.length() - 1)), 1, at);
        e.faulty(before + with(tokens, i, word + "s"), 1, at);
    }

    private void grammar() {
        e.says("I", "SHORE: {LINE ;}. LINE: shore cells N flood N slack N ebb N odds N | current C flood [back] N ebb [back] N"
                + " | beach C | thing worth N at C from N | rule C to C on P {P} to N | sitter at C.");
        e.sound("", 0);
        needsEach("", "shore cells 4 flood 2 slack 1 ebb 2 odds 9 ;", 1, "");
        needsEach(BARE, "current 1 flood 2 ebb 3 ;", 2, "");
        needsEach(BARE, "current 1 flood back 2 ebb back 3 ;", 2, " 3 6 ");
        e.faulty(BARE + "current 1 flood back back 2 ebb 3;", 1, BARE.length() + 21);
        e.faulty(BARE + "current 1 flood 2 ebb back back 3;", 1, BARE.length() + 27);
        e.faulty(BARE + "current 1 flood 2 back ebb 3;", 1, BARE.length() + 18);
        e.faulty(BARE + "current back 1 flood 2 ebb 3;", 1, BARE.length() + 8);
        needsEach(BARE, "beach 2 ;", 2, "");
        needsEach(BARE, "thing worth 5 at 1 from 7 ;", 2, "");
        needsEach(BARE, "rule 0 to 2 on ebb to 5 ;", 2, " 5 ");
        e.faulty(BARE + "rule 0 to 2 on to 5 ;", 1, BARE.length() + 15);
        needsEach(BARE, "rule 0 to 2 on ebb slack flood to 5 ;", 2, " 5 6 7 ");
        needsEach(BARE, "sitter at 2 ;", 2, "");
        e.says("I", "shore is the first LINE and no other");
        e.faulty(BARE + BARE, 1, BARE.length());
        e.faulty(BARE + "beach 0;" + BARE, 1, BARE.length() + 8);
        e.faulty("beach 0;" + BARE, 1, 0);
        e.faulty("current 0 flood 0 ebb 0;", 1, 0);
        e.faulty("thing worth 0 at 0 from 0;", 1, 0);
        e.faulty("rule 0 to 0 on ebb to 0;", 1, 0);
        e.faulty("sitter at 0;", 1, 0);
    }

    /** A number between two texts: its least and its most are sound, one beyond each, and far ones, are not. */
    private void bounded(String before, int least, int most, String behind, int lines) {
        int at = before.length();
        e.sound(before + least + behind, lines);
        e.sound(before + most + behind, lines);
        e.sound(before + "000" + least + behind, lines);
        e.sound(before + "0000000000000000000000000000" + most + behind, lines);
        e.faulty(before + (most + 1) + behind, 2, at);
        if (least > 0) {
            e.faulty(before + (least - 1) + behind, 2, at);
        }
        e.faulty(before + "-1" + behind, 1, at);
        String[] far = {"1000", "1000000", "2147483647", "2147483648", "4294967296", "9223372036854775807",
            "18446744073709551616", "99999999999999999999999999999999"};
        for (String number : far) {
            e.faulty(before + number + behind, 2, at);
            e.faulty(before + number.substring(0, number.length() - 1) + (9 - number.length() % 2) + least + behind, 2, at);
        }
    }

    private void shoreLine() {
        e.says("I", "cells 3 .. 12");
        bounded("shore cells ", 3, 12, " flood 1 slack 0 ebb 1 odds 0;", 1);
        e.is(e.told(BARE), 3, "count", 0);
        e.is(e.told(WIDE), 12, "count", 0);
        e.says("I", "flood, ebb 1 .. 12");
        bounded("shore cells 3 flood ", 1, 12, " slack 0 ebb 1 odds 0;", 1);
        bounded("shore cells 3 flood 1 slack 0 ebb ", 1, 12, " odds 0;", 1);
        e.is(e.told(FULL), 12, "count", 1);
        e.is(e.told(FULL), 12, "count", 3);
        e.is(e.told(BARE), 1, "count", 1);
        e.is(e.told(BARE), 1, "count", 3);
        e.says("I", "slack 0 .. 6");
        bounded("shore cells 3 flood 1 slack ", 0, 6, " ebb 1 odds 0;", 1);
        e.is(e.told(FULL), 6, "count", 2);
        e.is(e.told(BARE), 0, "count", 2);
        e.says("I", "odds 0 .. 100");
        bounded("shore cells 3 flood 1 slack 0 ebb 1 odds ", 0, 100, ";", 1);
        e.is(e.told(FULL), 100, "count", 4);
        e.is(e.told(BARE), 0, "count", 4);
    }

    private void currents() {
        e.says("I", "C a CELL 0 .. cells less 1");
        String[] shores = {BARE, WIDE, "shore cells 7 flood 1 slack 0 ebb 1 odds 0;"};
        int[] last = {2, 11, 6};
        for (int i = 0; i < shores.length; i++) {
            bounded(shores[i] + "current ", 0, last[i], " flood 0 ebb 0;", 2);
            bounded(shores[i] + "beach ", 0, last[i], ";", 2);
            bounded(shores[i] + "thing worth 0 at ", 0, last[i], " from 0;", 2);
            bounded(shores[i] + "rule ", 0, last[i], " to " + last[i] + " on ebb to 0;", 2);
            bounded(shores[i] + "rule 0 to ", 0, last[i], " on ebb to 0;", 2);
            bounded(shores[i] + "sitter at ", 0, last[i], ";", 2);
        }
        e.says("I", "current (a later one of a CELL strikes; 0, 0 without): steps 0 .. 3.");
        bounded(BARE + "current 1 flood ", 0, 3, " ebb 0;", 2);
        bounded(BARE + "current 1 flood back ", 0, 3, " ebb 0;", 2);
        bounded(BARE + "current 1 flood 0 ebb ", 0, 3, ";", 2);
        bounded(BARE + "current 1 flood 0 ebb back ", 0, 3, ";", 2);
        EbbWreck x = e.told(WIDE + "current 0 flood 3 ebb back 3; current 11 flood 1 ebb 1; current 11 flood back 2 ebb 0;"
                + "current 5 flood 1 ebb 2; current 5 flood back 0 ebb back 0;");
        e.is(x, 3, "cell", 0, 0);
        e.is(x, -3, "cell", 0, 1);
        e.is(x, -2, "cell", 11, 0);
        e.is(x, 0, "cell", 11, 1);
        e.is(x, 0, "cell", 5, 0);
        e.is(x, 0, "cell", 5, 1);
        e.is(x, 0, "cell", 4, 0);
        e.is(x, 0, "cell", 4, 1);
        e.tell(x, WIDE);
        e.is(x, 0, "cell", 0, 0);
        e.is(x, 0, "cell", 0, 1);
    }

    private void beaches() {
        e.says("I", "beach: that CELL is one.");
        EbbWreck x = e.told(WIDE + "beach 0; beach 11; beach 0;");
        e.is(x, 1, "cell", 0, 2);
        e.is(x, 0, "cell", 1, 2);
        e.is(x, 0, "cell", 10, 2);
        e.is(x, 1, "cell", 11, 2);
        e.is(x, 2, "count", 5);
        StringBuilder all = new StringBuilder(WIDE);
        for (int c = 0; c < 12; c++) {
            all.append("beach ").append(c).append(';');
        }
        e.is(e.told(all.toString()), 12, "count", 5);
        e.is(e.told(WIDE), 0, "count", 5);
    }

    private void things() {
        e.says("I", "thing: worth 0 .. 999, from (its first HOUR) 0 .. 99.");
        bounded(BARE + "thing worth ", 0, 999, " at 0 from 0;", 2);
        bounded(BARE + "thing worth 0 at 0 from ", 0, 99, ";", 2);
        EbbWreck x = e.told(WIDE + "thing worth 0 at 0 from 0; thing worth 999 at 11 from 99;");
        long[] least = {0, 0, 0};
        long[] most = {999, 11, 99};
        for (int what = 0; what < 3; what++) {
            e.is(x, least[what], "thing", 0, what);
            e.is(x, most[what], "thing", 1, what);
        }
    }

    private void rules() {
        e.says("I", "a rule's last one no less than its first.");
        e.sound(WIDE + "rule 0 to 0 on ebb to 0;", 2);
        e.sound(WIDE + "rule 11 to 11 on ebb to 0;", 2);
        e.sound(WIDE + "rule 5 to 6 on ebb to 0;", 2);
        e.sound(WIDE + "rule 5 to 5 on ebb to 0;", 2);
        e.faulty(WIDE + "rule 5 to 4 on ebb to 0;", 2, WIDE.length() + 10);
        e.faulty(WIDE + "rule 11 to 10 on ebb to 0;", 2, WIDE.length() + 11);
        e.faulty(WIDE + "rule 1 to 0 on ebb to 0;", 2, WIDE.length() + 10);
        e.says("I", "rule: P flood, slack, ebb (like ones count once); a PARTY 0 .. 5.");
        bounded(BARE + "rule 0 to 0 on ebb to ", 0, 5, ";", 2);
        String[] phases = {"flood", "slack", "flood slack", "ebb", "flood ebb", "slack ebb", "flood slack ebb"};
        for (int bits = 1; bits <= 7; bits++) {
            e.is(e.told(BARE + "rule 0 to 0 on " + phases[bits - 1] + " to 0;"), bits, "rule", 0, 2);
        }
        e.is(e.told(BARE + "rule 0 to 0 on ebb ebb ebb to 0;"), 4, "rule", 0, 2);
        e.is(e.told(BARE + "rule 0 to 0 on slack flood slack flood to 0;"), 3, "rule", 0, 2);
        e.is(e.told(BARE + "rule 0 to 0 on " + "ebb ".repeat(280) + "slack to 0;"), 6, "rule", 0, 2);
        e.is(e.told(BARE + "rule 0 to 0 on ebb to 5;"), 5, "rule", 0, 3);
        e.is(e.told(BARE + "rule 0 to 0 on ebb to 0;"), 0, "rule", 0, 3);
    }

    private void sitters() {
        e.says("I", "THINGS 0 .. 7, RULES 0 .. 5, SITTERS 0 .. 2");
        EbbWreck x = e.told(FULL);
        e.is(x, 8, "count", 6);
        e.is(x, 6, "count", 7);
        e.is(x, 3, "count", 8);
        e.is(x, 999, "thing", 7, 0);
        e.is(x, -2, "thing", 8, 0);
        e.is(x, 11, "rule", 5, 0);
        e.is(x, -2, "rule", 6, 0);
        e.is(x, 11, "sitter", 2);
        e.is(x, -2, "sitter", 3);
    }

    private void numbering() {
        e.says("I", "are numbered as they stand.");
        EbbWreck x = e.told(WIDE + "sitter at 3; thing worth 1 at 0 from 0; rule 1 to 2 on ebb to 3; thing worth 2 at 0 from 0;"
                + "sitter at 4; rule 5 to 6 on ebb to 4; thing worth 3 at 0 from 0; sitter at 5;");
        for (int i = 0; i < 3; i++) {
            e.is(x, i + 1, "thing", i, 0);
            e.is(x, i + 3, "sitter", i);
        }
        e.is(x, 3, "rule", 0, 3);
        e.is(x, 4, "rule", 1, 3);
        e.is(x, -2, "rule", 2, 3);
    }

    private void tokens() {
        int n = BARE.length();
        e.says("TOKENS", ", blanks (32, 10) aside, the longest");
        e.sound("shore\n\n  cells\n3 flood   1\nslack 0 ebb 1 odds 0 ; \n", 1);
        e.sound(" \n " + BARE, 1);
        e.sound("shore cells3flood1slack0ebb1odds0;beach2;", 2);
        e.faulty(BARE + "beachbeach 1;", 1, n);
        e.faulty(BARE + "bea ch 1;", 1, n);
        e.faulty(WIDE + "beach 12;", 2, WIDE.length() + 6);
        e.faulty(WIDE + "beach 1 2;", 1, WIDE.length() + 8);
        e.faulty(WIDE + "beach 1\n2;", 1, WIDE.length() + 8);
        e.sound(WIDE + "beach 11;", 2);
        e.faulty("shorecells 3", 1, 0);
        e.says("TOKENS", ": words (a .. z), numbers (digits), the sign ; .");
        for (int b = 0; b < 256; b++) {
            String text = BARE + "beach" + (char) b + "1;";
            if (b == ' ' || b == '\n' || b == '0') {
                e.sound(text, 2);
            } else if (b >= 'a' && b <= 'z') {
                e.faulty(text, 1, n);
            } else {
                e.faulty(text, b >= '1' && b <= '9' ? 2 : 1, n + 5);
            }
            if (b != ' ' && b != '\n') {
                e.faulty(BARE + (char) b, 1, n);
                e.faulty((char) b + BARE, 1, 0);
            }
        }
    }

    private void faults() {
        int n = BARE.length();
        e.says("FAULTS", ", the first by its place (a TOKEN's first byte; the end's)");
        e.faulty(BARE + "beach 3; %", 2, n + 6);
        e.faulty(BARE + "beach % 3;", 1, n + 6);
        e.faulty(BARE + "beach 3 %", 2, n + 6);
        e.faulty(BARE + "beach 3", 2, n + 6);
        e.faulty(BARE + "beach 2", 1, n + 7);
        e.faulty(BARE + "beach 2  \n ", 1, n + 11);
        e.faulty(BARE + "beach", 1, n + 5);
        e.faulty(BARE + "beach 000000000003;", 2, n + 6);
        e.faulty(BARE + "   sitterat 0;", 1, n + 3);
        e.faulty("shore cells 3 flood 0 slack 9 ebb 0 odds 999;", 2, 20);
        endsAnywhere();
        e.says("FAULTS", ", of one place the least");
        // The word "thing" can't stand there, and is a ninth thing's: 1 is less than 3.
        String things = "thing worth 0 at 0 from 0;".repeat(8);
        e.faulty(BARE + things + "beach 1 thing worth 0 at 0 from 0;", 1, n + things.length() + 8);
        e.faulty(BARE + "rule 0 to 0 on ebb to 0;".repeat(6) + "beach rule", 1, n + 6 * 24 + 6);
        e.says("FAULTS", "1 a TOKEN that is none, or can't stand there (shore behind the first LINE, another word ahead of it).");
        e.faulty(BARE + "shore", 1, n);
        e.faulty(BARE + " shore cells 3 flood 1 slack 0 ebb 1 odds 0;", 1, n + 1);
        e.faulty("cells 3", 1, 0);
        e.faulty("  beach 3", 1, 2);
        e.faulty(";", 1, 0);
        e.faulty("7", 1, 0);
        e.faulty(BARE + "flood 1;", 1, n);
        e.faulty(BARE + "beaches 1;", 1, n);
        e.faulty(BARE + "beac 1;", 1, n);
        e.faulty(BARE + "Beach 1;", 1, n);
        e.faulty(BARE + "beach 1,", 1, n + 7);
        e.says("FAULTS", "2 a number out of its bounds, not as said.");
        e.faulty(BARE + "beach 3;", 2, n + 6);
        e.faulty(BARE + "rule 2 to 1 on ebb to 0;", 2, n + 10);
        e.faulty(BARE + "rule 2 to 3 on ebb to 0;", 2, n + 10);
        e.faulty(BARE + "rule 3 to 2 on ebb to 0;", 2, n + 5);
        e.says("FAULTS", "3 a 9th thing, 7th rule, 4th sitter, at its word.");
        countedLines("thing worth 0 at 0 from 0;", 8, "thing");
        countedLines("rule 0 to 0 on ebb to 0;", 6, "rule");
        countedLines("sitter at 0;", 3, "sitter");
        e.sound(FULL, FULL_LINES);
    }

    private void countedLines(String line, int most, String word) {
        String all = BARE + line.repeat(most);
        e.sound(all, most + 1);
        e.faulty(all + line, 3, all.length());
        e.faulty(all + word, 3, all.length());
        e.faulty(all + " \n" + word + " 99999", 3, all.length() + 2);
        e.faulty(all + word + "s", 1, all.length());
        e.sound(all + "beach 0;", most + 2);
        e.faulty(BARE + "beach 0; " + line.repeat(most + 2), 3, n(line, most) + 9);
    }

    private static int n(String line, int most) {
        return BARE.length() + line.length() * most;
    }

    /** A text that ends within a word has its fault there, else at the end, but for an end behind a sign. */
    private void endsAnywhere() {
        String text = "shore cells 9 flood 3 slack 1 ebb 3 odds 50;\ncurrent 1 flood back 1 ebb 2; beach 8;"
                + " thing worth 100 at 2 from 0;rule 0 to 8 on flood ebb to 1; sitter at 5;";
        int start = 0;
        int lines = 0;
        for (int n = 0; n <= text.length(); n++) {
            char last = n == 0 ? ';' : text.charAt(n - 1);
            char next = n == text.length() ? ' ' : text.charAt(n);
            boolean inWord = Character.isLetter(last);
            if (inWord && (n == 1 || !Character.isLetter(text.charAt(n - 2)))) {
                start = n - 1;
            }
            lines += last == ';' && n > 0 ? 1 : 0;
            if (text.substring(0, n).trim().endsWith(";") || n == 0) {
                e.sound(text.substring(0, n), lines);
            } else {
                e.faulty(text.substring(0, n), 1, inWord && Character.isLetter(next) ? start : n);
            }
        }
    }

    private void newObject() {
        e.says(1, "No SHORE.");
        EbbWreck x = new EbbWreck();
        for (int what = 0; what <= 12; what++) {
            e.is(x, 0, "count", what);
        }
        e.is(x, -1000, "cell", 0, 0);
        e.is(x, -2, "phase", 0);
        e.is(x, -2, "undo");
        e.is(x, -2, "thing", 0, 0);
        e.is(x, -2, "sitter", 0);
        for (int k = 0; k < 3; k++) {
            e.is(x, -6, "back", k);
        }
        for (int slot = 0; slot < 4; slot++) {
            e.is(x, -6, "write", slot, 0, 0);
        }
    }

    private static void fill(EbbWreck x, int feeds) {
        for (int i = 0; i < feeds; i++) {
            x.feed(0x20202020, 0x20202020, 0x20202020, 0x20202020, 0x20202020);
        }
    }

    private void feed() {
        e.says(2, "Twenty bytes come behind the TAPE, four of each number, the highest first: how many it has");
        EbbWreck x = new EbbWreck();
        for (int i = 1; i <= 60; i++) {
            e.is(x, 20 * i, "feed", 0x20202020, 0x0a202020, 0x200a2020, 0x20200a20, 0x2020200a);
        }
        for (int i = 0; i < 20; i++) {
            // A byte of 128 and above, and each place of the twenty: the only byte that is no blank is the fault's.
            EbbWreck y = new EbbWreck();
            long[] five = new long[5];
            for (int k = 0; k < 5; k++) {
                int blanks = 0x20202020;
                five[k] = k == i / 4 ? blanks & ~(255 << 24 - i % 4 * 8) | 0x80 + i << 24 - i % 4 * 8 : blanks;
            }
            e.is(y, 20, "feed", five);
            e.is(y, -4, "shore");
            e.is(y, i, "fault", 1);
            e.is(y, 40, "feed", five);
            e.is(y, i, "end", i);
            e.is(y, 0, "shore");
        }
        e.says(2, "NONE, and none come, if it would have more than 1,200.");
        e.leaves(y -> fill(y, 60), -1, "feed", 1, 2, 3, 4, 5);
        int[] sizes = {1181, 1190, 1199};
        for (int size : sizes) {
            e.leaves(y -> {
                fill(y, 60);
                y.end(size);
            }, -1, "feed", 1, 2, 3, 4, 5);
        }
        EbbWreck y = new EbbWreck();
        fill(y, 60);
        e.is(y, 1180, "end", 1180);
        e.is(y, 1200, "feed", MIN, MAX, -1, 0, 1);
        e.is(y, -1, "feed", 0x20202020, 0x20202020, 0x20202020, 0x20202020, 0x20202020);
        e.is(y, 1200, "count", 11);
        EbbWreck longest = new EbbWreck();
        Edges.feed(longest, BARE + "beach 2;".repeat(144) + "     ");
        e.is(longest, 1200, "count", 11);
        e.is(longest, -1, "feed", 0, 0, 0, 0, 0);
        e.is(longest, 145, "shore");
    }

    private void end() {
        Edges.Past some = y -> Edges.feed(y, BARE + "sitter at 1;");
        int size = BARE.length() + 12;
        e.says(3, "The TAPE has its first n bytes alone: n");
        EbbWreck x = new EbbWreck();
        e.is(x, 0, "end", 0);
        some.on(x);
        e.is(x, size, "end", size);
        e.is(x, BARE.length(), "end", BARE.length());
        e.is(x, BARE.length(), "count", 11);
        Edges.feed(x, "beach 1;");
        e.is(x, 2, "shore");
        e.is(x, 1, "count", 5);
        Edges.feed(x, BARE);
        e.is(x, 1, "end", 1);
        e.is(x, 0, "end", 0);
        e.is(x, 0, "shore");
        e.says(3, "NONE, and nothing happens, if it has not so many, or n is below 0.");
        int[] bad = {size + 1, -1, MIN, MAX, 1200, 1201};
        for (int n : bad) {
            e.leaves(some, -1, "end", n);
        }
        e.leaves(y -> { }, -1, "end", 1);
        e.leaves(y -> fill(y, 60), -1, "end", 1201);
        // Bytes that were cut off are gone: it has not so many any more.
        EbbWreck cut = new EbbWreck();
        some.on(cut);
        cut.end(10);
        e.is(cut, -1, "end", 11);
        e.is(cut, 10, "count", 11);
        e.told(BARE);
        EbbWreck empty = e.told(BARE);
        e.is(empty, -1, "end", 1);
    }

    private void shore() {
        e.says(4, "The TAPE (empty then) is the SHORE (in place of another), nothing done: how many LINES");
        EbbWreck x = e.told(FULL);
        e.is(x, 0, "count", 11);
        x.sit(0, 1);
        x.shove(0, 99, 1);
        Edges.feed(x, FULL);
        e.is(x, FULL_LINES, "shore");
        e.is(x, 0, "count", 9);
        e.is(x, 11, "sitter", 0);
        e.is(x, -5, "undo");
        Edges.feed(x, BARE);
        e.is(x, 1, "shore");
        for (int what = 5; what <= 9; what++) {
            e.is(x, 0, "count", what);
        }
        e.is(x, -1000, "cell", 3, 0);
        e.is(x, -2, "thing", 0, 0);
        e.is(x, -2, "rule", 0, 0);
        e.is(x, -2, "sitter", 0);
        e.says(4, "(0: there is none then)");
        x = e.told(FULL);
        x.image(0);
        x.sit(0, 1);
        e.is(x, 0, "shore");
        for (int what = 0; what <= 11; what++) {
            e.is(x, 0, "count", what);
        }
        e.is(x, -2, "has", 0);
        e.is(x, -2, "undo");
        e.is(x, -2, "anew");
        e.is(x, -2, "sitter", 0);
        e.is(x, 0, "back", 0);
        e.is(x, 11, "sitter", 0);
        x = e.told(FULL);
        Edges.feed(x, " \n ");
        e.is(x, 0, "shore");
        e.is(x, 0, "count", 0);
        e.says(4, "-4: a FAULT (all stays).");
        String[] bad = {"shore", BARE + "beach 3;", BARE + "sitter at 0;".repeat(4), BARE + "thing worth 5 at 0 from 0;;", "%"};
        for (String text : bad) {
            e.leaves(y -> Edges.feed(y, text), -4, "shore");
            e.leaves(y -> {
                e.tell(y, FULL);
                y.sit(0, 3);
                y.shove(0, 99, 1);
                y.image(1);
                y.sit(1, 4);
                Edges.feed(y, text);
            }, -4, "shore");
        }
        // The TAPE stays: behind a cut of what is wrong it is told.
        x = new EbbWreck();
        Edges.feed(x, BARE + "beach 3;");
        e.is(x, -4, "shore");
        e.is(x, BARE.length() + 8, "count", 11);
        e.is(x, BARE.length(), "end", BARE.length());
        e.is(x, 1, "shore");
    }

    private void fault() {
        e.says(5, "Of the latest shore(), what 0: its FAULT, 0 without, 1: its place (NONE without).");
        EbbWreck x = new EbbWreck();
        Edges.feed(x, "shore cells 2");
        e.is(x, -4, "shore");
        e.is(x, 2, "fault", 0);
        e.is(x, 12, "fault", 1);
        x.end(0);
        e.is(x, 12, "fault", 1);
        Edges.feed(x, "%");
        e.is(x, 2, "fault", 0);
        e.is(x, -4, "shore");
        e.is(x, 1, "fault", 0);
        e.is(x, 0, "fault", 1);
        x.end(0);
        e.is(x, 0, "shore");
        e.is(x, 0, "fault", 0);
        e.is(x, -1, "fault", 1);
        Edges.feed(x, BARE + "sitter at 0;".repeat(4));
        e.is(x, -4, "shore");
        e.is(x, 3, "fault", 0);
        e.is(x, BARE.length() + 36, "fault", 1);
        x.image(0);
        x.back(0);
        e.is(x, 3, "fault", 0);
        x.end(BARE.length());
        e.is(x, 1, "shore");
        e.is(x, 0, "fault", 0);
        e.is(x, -1, "fault", 1);
        EbbWreck last = new EbbWreck();
        Edges.feed(last, BARE + "beach 2;".repeat(144) + "beach");
        e.is(last, -4, "shore");
        e.is(last, 1200, "fault", 1);
        e.says(5, "NONE for another what, and ahead of any (what 1).");
        int[] others = {-1, 2, 3, MIN, MAX};
        EbbWreck y = new EbbWreck();
        for (int what : others) {
            e.is(y, -1, "fault", what);
            e.is(last, -1, "fault", what);
        }
        e.is(y, -1, "fault", 1);
        e.is(y, 0, "fault", 0);
        Edges.feed(y, "%");
        e.is(y, -1, "fault", 1);
    }

    /** A call of two arguments: just these firsts and seconds are such, else the answer is that for none such. */
    private void grid(EbbWreck x, String name, int firsts, int seconds, long none) {
        int[] args = {MIN, -1000, -2, -1, 0, 1, 2, 3, 4, 5, 6, 7, 8, 11, 12, 13, 400, MAX};
        for (int a : args) {
            for (int b : args) {
                boolean such = a >= 0 && a < firsts && b >= 0 && b < seconds;
                e.due(name + " " + a + " " + b + " is such", Edges.call(x, name, a, b) == none ? 0 : 1, such ? 1 : 0);
            }
        }
    }

    private void cell() {
        e.says(6, "Of a CELL, what 0: steps by flood (below 0: back), 1: by ebb, 2: 1 if it is a BEACH, else 0.");
        EbbWreck x = e.told(WIDE + "current 0 flood 3 ebb back 1; current 11 flood back 3 ebb 2; beach 11;");
        long[] first = {3, -1, 0};
        long[] last = {-3, 2, 1};
        for (int what = 0; what < 3; what++) {
            e.is(x, first[what], "cell", 0, what);
            e.is(x, last[what], "cell", 11, what);
            e.is(x, 0, "cell", 5, what);
        }
        e.says(6, "-1,000: there are none such.");
        grid(x, "cell", 12, 3, -1000);
        grid(e.told(BARE), "cell", 3, 3, -1000);
        grid(new EbbWreck(), "cell", 0, 3, -1000);
    }

    private void thing() {
        e.says(7, "Of a THING, what 0: worth, 1: its first CELL, 2: its first HOUR.");
        EbbWreck x = e.told(FULL);
        e.is(x, 999, "thing", 7, 0);
        e.is(x, 11, "thing", 7, 1);
        e.is(x, 99, "thing", 7, 2);
        x.rate(7, 0);
        e.is(x, 0, "thing", 7, 0);
        x.shove(7, 99, 1);
        e.is(x, 11, "thing", 7, 1);
        e.says(7, "-2: there are none such.");
        grid(x, "thing", 8, 3, -2);
        grid(e.told(BARE + "thing worth 1 at 1 from 1;"), "thing", 1, 3, -2);
        grid(e.told(BARE), "thing", 0, 3, -2);
        grid(new EbbWreck(), "thing", 0, 3, -2);
    }

    private void rule() {
        e.says(8, "Of a RULE, what 0: its first CELL, 1: its last one, 2: its PHASES, as bits, 3: its PARTY.");
        EbbWreck x = e.told(WIDE + "rule 0 to 11 on slack to 5; rule 4 to 6 on ebb flood to 0;");
        long[] first = {0, 11, 2, 5};
        long[] second = {4, 6, 5, 0};
        for (int what = 0; what < 4; what++) {
            e.is(x, first[what], "rule", 0, what);
            e.is(x, second[what], "rule", 1, what);
        }
        e.says(8, "-2: there are none such.");
        grid(x, "rule", 2, 4, -2);
        grid(e.told(FULL), "rule", 6, 4, -2);
        grid(e.told(BARE), "rule", 0, 4, -2);
        grid(new EbbWreck(), "rule", 0, 4, -2);
    }

    private void sitter() {
        e.says(9, "The CELL on which a SITTER sits now.");
        EbbWreck x = e.told(BARE + "sitter at 0; sitter at 2;");
        e.is(x, 0, "sitter", 0);
        e.is(x, 2, "sitter", 1);
        x.sit(1, 0);
        x.sit(0, 2);
        e.is(x, 2, "sitter", 0);
        e.is(x, 0, "sitter", 1);
        e.says(9, "-2: there is none such.");
        int[] bad = {-1, 2, 3, MIN, MAX};
        for (int s : bad) {
            e.is(x, -2, "sitter", s);
        }
        e.is(e.told(FULL), -2, "sitter", 3);
        e.is(e.told(BARE), -2, "sitter", 0);
        e.is(new EbbWreck(), -2, "sitter", 0);
    }

    private void count() {
        e.says(59, "0 CELLS, 1 flood, 2 slack, 3 ebb, 4 odds, 5 BEACHES, 6 THINGS, 7 RULES, 8 SITTERS, 9 acts, 10 LINES,"
                + " 11 bytes of the TAPE, 12 SLOTS that have a row.");
        EbbWreck x = e.told("shore cells 7 flood 2 slack 3 ebb 4 odds 5; beach 1; beach 2; beach 2; beach 3;"
                + "thing worth 0 at 0 from 0; rule 0 to 0 on ebb to 0; rule 0 to 0 on ebb to 0; sitter at 0;");
        x.sit(0, 1);
        x.shove(0, 0, 0);
        x.sit(0, 1);
        x.row(2, 0, 0);
        x.row(3, 3, 60);
        x.feed(0, 0, 0, 0, 0);
        x.end(13);
        int[] want = {7, 2, 3, 4, 5, 3, 1, 2, 1, 3, 9, 13, 2};
        for (int what = 0; what <= 12; what++) {
            e.is(x, want[what], "count", what);
        }
        x.row(0, 0, 60);
        e.is(x, 3, "count", 12);
        x.row(0, 1, 0);
        e.is(x, 3, "count", 12);
        x.row(1, 0, 1);
        e.is(x, 4, "count", 12);
        e.says(59, "NONE for others.");
        int[] others = {-1, 13, 14, MIN, MAX};
        for (int what : others) {
            e.is(x, -1, "count", what);
            e.is(new EbbWreck(), -1, "count", what);
        }
    }
}
