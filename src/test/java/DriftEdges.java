/** Edges of tides, drifting, coming up and the rules: Terms II and III, promises 10 to 23 and 30 to 33. */
final class DriftEdges {
    private static final String BARE = TellingEdges.BARE;
    private static final String WIDE = TellingEdges.WIDE;
    private static final int MAX = Integer.MAX_VALUE;
    private static final int MIN = Integer.MIN_VALUE;
    private static final int LAST = 2000000000;

    /**
     * Round of 8: flood 0 1 2, slack 3, ebb 4 5 6, slack 7. Unpushed: 0 comes up in 2 on 5 (flood),
     * 1 in 5 on 0 (ebb), 2 in 3 on 5 (slack), 3 in 7 on 5 (slack), 4 in 7 on 0 (slack).
     */
    static final String BAY = "shore cells 6 flood 3 slack 1 ebb 3 odds 50;"
            + "current 1 flood 1 ebb back 1; current 2 flood 1 ebb back 1;"
            + "current 3 flood 2 ebb back 1; current 4 flood 1 ebb back 3; beach 0; beach 5;"
            + "thing worth 100 at 2 from 0; thing worth 50 at 1 from 4; thing worth 30 at 4 from 2;"
            + "thing worth 7 at 5 from 6; thing worth 9 at 3 from 3;"
            + "rule 5 to 5 on flood to 1; rule 0 to 5 on flood ebb to 2; rule 0 to 0 on ebb to 3;"
            + "rule 0 to 0 on slack slack to 0; sitter at 5; sitter at 5; sitter at 0;";

    private final Edges e;

    DriftEdges(Edges edges) {
        e = edges;
    }

    void all() {
        rounds();
        ends();
        comingUp();
        deciding();
        pushing();
        phase();
        next();
        drifts();
        at();
        comes();
        beachAndWhose();
        has();
        line();
        argued();
        gaps();
        idle();
        without();
        strike();
        richest();
        meet();
        lasts();
        slacks();
    }

    private static String shore(int cells, int flood, int slack, int ebb) {
        return "shore cells " + cells + " flood " + flood + " slack " + slack + " ebb " + ebb + " odds 0;";
    }

    static String currents(int cells, String steps) {
        StringBuilder s = new StringBuilder();
        for (int c = 0; c < cells; c++) {
            s.append("current ").append(c).append(' ').append(steps).append(';');
        }
        return s.toString();
    }

    private static final int[][] TIDES = {{1, 0, 1}, {12, 6, 12}, {1, 6, 1}, {12, 0, 1}, {1, 0, 12}, {1, 6, 12}, {12, 6, 1},
        {12, 0, 12}, {2, 1, 3}, {7, 5, 4}};

    /** By HOUR of the round, written out one HOUR behind the other. */
    private static int[] roundOf(int[] tide) {
        int[] round = new int[tide[0] + tide[2] + 2 * tide[1]];
        int at = 0;
        for (int part = 0; part < 4; part++) {
            for (int i = 0; i < tide[part == 3 ? 1 : part]; i++) {
                round[at] = part == 3 ? 1 : part;
                at++;
            }
        }
        return round;
    }

    private void rounds() {
        e.says("II", "From HOUR 0 on flood HOURS are flood, slack HOURS slack, ebb HOURS ebb, slack HOURS slack, and so on anew.");
        for (int[] tide : TIDES) {
            EbbWreck x = e.told(shore(3, tide[0], tide[1], tide[2]));
            int[] round = roundOf(tide);
            int flood = tide[0];
            int slack = tide[1];
            e.is(x, 0, "phase", 0);
            e.is(x, 0, "phase", flood - 1);
            e.is(x, slack == 0 ? 2 : 1, "phase", flood);
            e.is(x, slack == 0 ? 2 : 1, "phase", round.length - 1);
            e.is(x, 0, "phase", round.length);
            for (int h = 0; h < 2 * round.length + 2; h++) {
                e.is(x, round[h % round.length], "phase", h);
                e.is(x, round[(LAST - h) % round.length], "phase", LAST - h);
            }
        }
    }

    private void ends() {
        e.says("II", "What is afloat in a CELL in an HOUR is in the next HOUR as many CELLS on as its current tells for that"
                + " HOUR's PHASE (at slack 0), in the first or the last CELL, if that is beyond.");
        int[] sizes = {3, 4, 12};
        for (int cells : sizes) {
            for (int steps = -3; steps <= 3; steps++) {
                String on = steps < 0 ? "back " + -steps : "" + steps;
                String off = steps > 0 ? "back " + steps : "" + -steps;
                EbbWreck x = e.told(shore(cells, 1, 1, 1) + currents(cells, "flood " + on + " ebb " + off));
                for (int c = 0; c < cells; c++) {
                    e.is(x, Math.max(0, Math.min(cells - 1, c + steps)), "drifts", c, 0);
                    e.is(x, c, "drifts", c, 1);
                    e.is(x, Math.max(0, Math.min(cells - 1, c - steps)), "drifts", c, 2);
                    e.is(x, c, "drifts", c, 3);
                    e.is(x, Math.max(0, Math.min(cells - 1, c + steps)), "drifts", c, 4);
                }
            }
        }
    }

    private void comingUp() {
        e.says("II", "A THING is afloat in its first CELL in its first HOUR (a BEACH, too); in the first HOUR behind that in which"
                + " it is on a BEACH it comes up there, and stays.");
        // On the BEACH 1 things lie still; from the BEACH 2 the flood takes them to 1, or, pushed, to 0.
        EbbWreck x = e.told(shore(4, 2, 0, 2) + "beach 1; beach 2; current 2 flood back 1 ebb 1; current 3 flood 0 ebb back 1;"
                + "thing worth 1 at 1 from 0; thing worth 1 at 1 from 99; thing worth 1 at 2 from 0; thing worth 1 at 2 from 2;"
                + "thing worth 1 at 0 from 5; thing worth 1 at 3 from 0;");
        e.is(x, 1, "at", 0, 0);
        e.is(x, 1, "comes", 0);
        e.is(x, 100, "comes", 1);
        e.is(x, -1, "at", 1, 98);
        e.is(x, 1, "at", 1, 99);
        e.is(x, 2, "at", 2, 0);
        e.is(x, 1, "comes", 2);
        e.is(x, 1, "beach", 2);
        // Thrown in on the BEACH 2 at ebb it is on 3, no BEACH, in 3; from there in 4 on 2.
        e.is(x, 3, "at", 3, 3);
        e.is(x, 4, "comes", 3);
        e.is(x, 2, "beach", 3);
        e.is(x, 2, "at", 3, 5);
        e.is(x, 2, "at", 3, 400);
        e.is(x, -1, "comes", 4);
        e.is(x, 3, "comes", 5);
        e.is(x, 2, "at", 5, 400);
        // A BEACH that is only gone across is none on which it comes up.
        EbbWreck across = e.told(shore(6, 1, 0, 1) + "beach 2; current 0 flood 3 ebb 0; thing worth 1 at 0 from 0;");
        e.is(across, 3, "at", 0, 1);
        e.is(across, -1, "comes", 0);
    }

    private void deciding() {
        e.says("II", "WHOSE: the first RULE of whose CELLS that is one, and of whose PHASES that HOUR is, decides: its PARTY's.");
        // Things lie on 0 .. 5; they come up in 1 (slack) from 0, in 2 (ebb) from 1, in 3 (slack) from 2, in 4 (flood) from 3.
        StringBuilder s = new StringBuilder(shore(12, 1, 1, 1));
        for (int c = 0; c < 6; c++) {
            s.append("beach ").append(c).append("; thing worth 1 at ").append(c).append(" from 0;");
        }
        EbbWreck x = e.told(s + "rule 2 to 3 on slack to 5; rule 2 to 2 on slack to 4; rule 3 to 4 on slack to 3;"
                + "rule 0 to 11 on flood ebb to 2; rule 5 to 5 on slack ebb to 0;");
        int[] whose = {-1, -1, 5, 5, 3, 0};
        for (int th = 0; th < 6; th++) {
            e.is(x, whose[th], "whose", th);
        }
        EbbWreck phases = e.told(shore(3, 1, 1, 1) + "beach 0; thing worth 1 at 0 from 0; thing worth 1 at 0 from 1;"
                + "thing worth 1 at 0 from 2; thing worth 1 at 0 from 3; rule 0 to 0 on ebb to 1; rule 0 to 2 on slack to 2;"
                + "rule 0 to 1 on flood slack ebb to 3;");
        e.is(phases, 2, "whose", 0);
        e.is(phases, 1, "whose", 1);
        e.is(phases, 2, "whose", 2);
        e.is(phases, 3, "whose", 3);
    }

    private void pushing() {
        e.says("III", "Pushed on in an HOUR (back) what is afloat goes one CELL on (back), if there is one, and then drifts from there.");
        EbbWreck x = e.told(shore(4, 1, 0, 1) + "current 0 flood 2 ebb 0; current 1 flood 0 ebb 1; current 3 flood 0 ebb back 3;"
                + "thing worth 1 at 0 from 0; thing worth 1 at 3 from 1; thing worth 1 at 1 from 0; thing worth 1 at 2 from 1;");
        x.shove(0, 0, 1);
        e.is(x, 2, "at", 0, 1);
        x.shove(1, 1, 0);
        e.is(x, 0, "at", 1, 2);
        x.shove(2, 0, 1);
        e.is(x, 2, "at", 2, 1);
        x.shove(3, 1, 0);
        e.is(x, 0, "at", 3, 2);
        EbbWreck still = e.told(BARE + "thing worth 1 at 1 from 0; thing worth 1 at 0 from 0; thing worth 1 at 2 from 0;");
        still.shove(0, 0, 1);
        e.is(still, 0, "at", 0, 1);
        still.shove(0, 1, 0);
        e.is(still, 1, "at", 0, 2);
        still.shove(1, 0, 1);
        e.is(still, 0, "at", 1, 1);
        still.shove(2, 0, 0);
        e.is(still, 2, "at", 2, 1);
        // Pushed onto a BEACH it still drifts from there.
        EbbWreck off = e.told(BARE + "beach 1; current 1 flood 1 ebb 1; thing worth 1 at 0 from 0;");
        off.shove(0, 0, 0);
        e.is(off, 2, "at", 0, 1);
        e.is(off, -1, "comes", 0);
        e.says("III", "Of each THING one push an HOUR at most; what has come up, is not thrown in yet, is not pushed"
                + " (a push done then does nothing).");
        EbbWreck one = e.told(BARE + "beach 2; thing worth 1 at 0 from 5; thing worth 1 at 0 from 5;");
        e.is(one, 1, "shove", 0, 4, 0);
        e.is(one, 0, "at", 0, 6);
        e.is(one, 2, "shove", 0, 5, 0);
        e.is(one, 1, "at", 0, 6);
        e.is(one, -5, "shove", 0, 5, 0);
        e.is(one, -5, "shove", 0, 5, 1);
        e.is(one, 1, "shove", 1, 5, 0);
        e.is(one, 3, "shove", 0, 6, 0);
        e.is(one, 7, "comes", 0);
        e.is(one, 4, "shove", 0, 7, 1);
        e.is(one, 5, "shove", 0, 8, 1);
        e.is(one, 2, "at", 0, 8);
        e.is(one, 2, "at", 0, 400);
        e.is(one, 7, "comes", 0);
    }

    private void phase() {
        e.says(10, "PHASE (II) of an HOUR (0 .. 2,000,000,000): 0 flood, 1 slack, 2 ebb.");
        EbbWreck x = e.told(shore(3, 12, 6, 12));
        e.is(x, 0, "phase", 0);
        e.is(x, 0, "phase", 11);
        e.is(x, 1, "phase", 12);
        e.is(x, 1, "phase", 17);
        e.is(x, 2, "phase", 18);
        e.is(x, 2, "phase", 29);
        e.is(x, 1, "phase", 30);
        e.is(x, 1, "phase", 35);
        e.is(x, 0, "phase", 36);
        // 2,000,000,000 is 20 more than 55,555,555 rounds.
        e.is(x, 2, "phase", LAST);
        e.is(x, 1, "phase", LAST - 3);
        e.says(10, "-2: there is none such, no SHORE.");
        refusesHours(x, "phase");
    }

    private void refusesHours(EbbWreck x, String name) {
        int[] bad = {-1, MIN, LAST + 1, MAX};
        for (int hour : bad) {
            e.is(x, -2, name, hour);
        }
        e.is(new EbbWreck(), -2, name, 0);
        e.is(new EbbWreck(), -2, name, LAST);
        EbbWreck gone = e.told(BARE);
        gone.shore();
        e.is(gone, -2, name, 0);
    }

    private void next() {
        e.says(11, "The first HOUR from one on (0 .. 1,000,000,000; it, too) that is of a PHASE.");
        EbbWreck x = e.told(shore(3, 12, 6, 12));
        e.is(x, 0, "next", 0, 0);
        e.is(x, 12, "next", 0, 1);
        e.is(x, 18, "next", 0, 2);
        e.is(x, 11, "next", 11, 0);
        e.is(x, 36, "next", 12, 0);
        e.is(x, 17, "next", 17, 1);
        e.is(x, 30, "next", 18, 1);
        e.is(x, 29, "next", 29, 2);
        e.is(x, 54, "next", 30, 2);
        e.is(x, 36, "next", 35, 0);
        e.is(x, 48, "next", 36, 1);
        // 1,000,000,000 is 28 more than 27,777,777 rounds: ebb, two HOURS of it are left.
        e.is(x, 1000000000, "next", 1000000000, 2);
        e.is(x, 1000000002, "next", 1000000000, 1);
        e.is(x, 1000000008, "next", 1000000000, 0);
        e.is(x, 999999999, "next", 999999999, 2);
        EbbWreck odd = e.told(shore(3, 1, 6, 12));
        e.is(odd, 25, "next", 1, 0);
        e.is(odd, 1000000000, "next", 1000000000, 0);
        e.is(odd, 1000000000, "next", 999999976, 0);
        e.says(11, "NONE: there is none;");
        EbbWreck bare = e.told(BARE);
        e.is(bare, -1, "next", 0, 1);
        e.is(bare, -1, "next", 1000000000, 1);
        e.is(bare, 0, "next", 0, 0);
        e.is(bare, 1, "next", 0, 2);
        e.is(e.told(shore(3, 12, 0, 12)), -1, "next", 7, 1);
        e.says(11, "-2: there are none such, no SHORE.");
        long[][] bad = {{-1, 0}, {1000000001, 0}, {MIN, 0}, {MAX, 0}, {LAST, 0}, {0, -1}, {0, 3}, {0, MIN}, {0, MAX}, {-1, 3}};
        for (long[] b : bad) {
            e.is(x, -2, "next", b);
            e.is(new EbbWreck(), -2, "next", b);
        }
        e.is(bare, -2, "next", 1000000001, 1);
        e.is(new EbbWreck(), -2, "next", 0, 0);
    }

    private void drifts() {
        e.says(12, "The CELL in which what is afloat in a CELL is an HOUR later (II), if it is there in an HOUR (0 .. 2,000,000,000).");
        EbbWreck x = e.told(shore(12, 12, 6, 12) + currents(12, "flood 1 ebb back 2") + "beach 5;");
        e.is(x, 1, "drifts", 0, 0);
        e.is(x, 11, "drifts", 11, 11);
        e.is(x, 0, "drifts", 0, 12);
        e.is(x, 9, "drifts", 11, 18);
        e.is(x, 9, "drifts", 11, LAST);
        e.is(x, 0, "drifts", 0, LAST);
        e.is(x, 11, "drifts", 11, LAST - 3);
        e.is(x, 6, "drifts", 5, 0);
        e.says(12, "-2: there are none such.");
        long[][] bad = {{-1, 0}, {12, 0}, {MIN, 0}, {MAX, 0}, {0, -1}, {0, LAST + 1}, {0, MIN}, {0, MAX}, {-1, -1}, {12, LAST + 1}};
        for (long[] b : bad) {
            e.is(x, -2, "drifts", b);
        }
        e.is(e.told(BARE), 2, "drifts", 2, 0);
        e.is(e.told(BARE), -2, "drifts", 3, 0);
        e.is(new EbbWreck(), -2, "drifts", 0, 0);
    }

    private void at() {
        e.says(13, "The CELL in which a THING is in an HOUR (0 .. 400), as told, pushed as done (III).");
        EbbWreck x = e.told(BARE + "thing worth 1 at 0 from 0; thing worth 1 at 1 from 99;");
        e.is(x, 0, "at", 0, 0);
        e.is(x, 0, "at", 0, 400);
        x.shove(0, 399, 0);
        e.is(x, 0, "at", 0, 399);
        e.is(x, 1, "at", 0, 400);
        x.shove(0, 400, 0);
        e.is(x, 1, "at", 0, 400);
        x.undo();
        x.undo();
        e.is(x, 0, "at", 0, 400);
        e.says(13, "NONE: it is not thrown in yet;");
        e.is(x, -1, "at", 1, 0);
        e.is(x, -1, "at", 1, 98);
        e.is(x, 1, "at", 1, 99);
        e.says(13, "-2: there are none such.");
        long[][] bad = {{2, 0}, {-1, 0}, {8, 0}, {MIN, 0}, {MAX, 0}, {0, 401}, {0, -1}, {0, MIN}, {0, MAX}, {1, -1}, {2, 401}};
        for (long[] b : bad) {
            e.is(x, -2, "at", b);
        }
        e.is(new EbbWreck(), -2, "at", 0, 0);
    }

    /** By flood 0 and 1, 2 and 3, .. are swapped each HOUR, by ebb 1 and 2, 3 and 4, .. */
    static String swapping(int flood, int slack, int ebb) {
        StringBuilder s = new StringBuilder(shore(12, flood, slack, ebb));
        for (int c = 0; c < 12; c++) {
            String on = c == 0 || c == 11 ? "0" : "1";
            s.append("current ").append(c).append(c % 2 == 0 ? " flood 1 ebb back " + on : " flood back 1 ebb " + on).append(';');
        }
        return s.toString();
    }

    private void comes() {
        e.says(14, "The HOUR in which it comes up.");
        EbbWreck x = e.told(BARE + "beach 2; thing worth 1 at 0 from 0; thing worth 1 at 2 from 99; thing worth 1 at 2 from 0;");
        e.is(x, 100, "comes", 1);
        e.is(x, 1, "comes", 2);
        e.says(14, "NONE: not to HOUR 400;");
        e.is(x, -1, "comes", 0);
        x.shove(0, 398, 0);
        x.shove(0, 399, 0);
        e.is(x, 400, "comes", 0);
        x.undo();
        x.shove(0, 400, 0);
        e.is(x, -1, "comes", 0);
        // Thrown in 96 into 2 it goes on by two CELLS a round, back by two, and at the tenth ebb is on 1: in 384 + 16.
        e.is(e.told(swapping(9, 6, 11) + "beach 1; thing worth 1 at 2 from 96;"), 400, "comes", 0);
        e.is(e.told(swapping(11, 5, 11) + "beach 1; thing worth 1 at 2 from 96;"), -1, "comes", 0);
        e.says(14, "-2: there is none such.");
        refusesThings("comes");
    }

    private void refusesThings(String name) {
        EbbWreck x = e.told(BAY);
        int[] bad = {5, 8, -1, MIN, MAX};
        for (int th : bad) {
            e.is(x, -2, name, th);
        }
        EbbWreck full = e.told(TellingEdges.FULL);
        e.due(name + " 7 is one", Edges.call(full, name, 7) == -2 ? 1 : 0, 0);
        e.is(full, -2, name, 8);
        e.is(e.told(BARE), -2, name, 0);
        e.is(new EbbWreck(), -2, name, 0);
    }

    private void beachAndWhose() {
        e.says(15, "The BEACH on which.");
        EbbWreck x = e.told(BARE + "beach 0; beach 2; thing worth 1 at 0 from 0; thing worth 1 at 1 from 0; thing worth 1 at 2 from 0;"
                + "rule 2 to 2 on ebb to 0;");
        e.is(x, 0, "beach", 0);
        e.is(x, 2, "beach", 2);
        e.says(15, "NONE, -2 likewise.");
        e.is(x, -1, "beach", 1);
        x.shove(1, 399, 1);
        e.is(x, 0, "beach", 1);
        x.undo();
        x.shove(1, 400, 1);
        e.is(x, -1, "beach", 1);
        refusesThings("beach");
        e.says(16, "WHOSE it is (II).");
        e.is(x, 0, "whose", 2);
        e.is(e.told(TellingEdges.FULL), 5, "whose", 7);
        e.says(16, "NONE: nobody's, it does not come up;");
        e.is(x, -1, "whose", 0);
        e.is(x, -1, "whose", 1);
        x.undo();
        x.shove(1, 398, 0);
        e.is(x, 0, "whose", 1);
        x.undo();
        // In 400 it is flood, and nobody's; a push in 400 is too late.
        x.shove(1, 399, 0);
        e.is(x, -1, "whose", 1);
        EbbWreck late = e.told(BARE + "beach 2; thing worth 1 at 1 from 0; rule 2 to 2 on flood to 4;");
        late.shove(0, 399, 0);
        e.is(late, 4, "whose", 0);
        late.undo();
        late.shove(0, 400, 0);
        e.is(late, -1, "whose", 0);
        e.says(16, "-2 likewise.");
        refusesThings("whose");
    }

    private void has() {
        e.says(17, "Worth of THINGS that are a PARTY's (0 .. 5), together.");
        EbbWreck x = e.told(TellingEdges.FULL);
        e.is(x, 8 * 999, "has", 5);
        e.is(x, 0, "has", 0);
        x.rate(7, 0);
        e.is(x, 7 * 999, "has", 5);
        e.is(e.told(BARE), 0, "has", 0);
        e.is(e.told(BARE), 0, "has", 5);
        e.says(17, "-2: there is none such, no SHORE.");
        refusesParties("has", -2);
    }

    /** A call by PARTY alone: just 0 .. 5 are such, with a SHORE. */
    private void refusesParties(String name, long none) {
        EbbWreck x = e.told(BAY);
        int[] bad = {-1, 6, MIN, MAX};
        for (int party : bad) {
            e.is(x, none, name, party);
            e.is(new EbbWreck(), none, name, party);
        }
        for (int party = 0; party <= 5; party++) {
            e.due(name + " " + party + " is such", Edges.call(x, name, party) == none ? 1 : 0, 0);
            e.is(new EbbWreck(), none, name, party);
        }
    }

    private void line() {
        e.says(18, "THINGS that come up on a CELL, as bits.");
        EbbWreck x = e.told(TellingEdges.FULL);
        e.is(x, 255, "line", 11);
        e.is(x, 0, "line", 0);
        e.is(x, 0, "line", 5);
        EbbWreck bay = e.told(BAY);
        e.is(bay, 1 + 4 + 8, "line", 5);
        e.is(bay, 2 + 16, "line", 0);
        EbbWreck late = e.told(BARE + "beach 2; thing worth 1 at 1 from 0; thing worth 1 at 2 from 0;");
        late.shove(0, 399, 0);
        e.is(late, 3, "line", 2);
        late.undo();
        late.shove(0, 400, 0);
        e.is(late, 2, "line", 2);
        e.is(late, 0, "line", 1);
        e.says(18, "-2: there is none such.");
        int[] bad = {-1, 12, MIN, MAX};
        for (int c : bad) {
            e.is(x, -2, "line", c);
        }
        e.is(bay, -2, "line", 6);
        e.is(new EbbWreck(), -2, "line", 0);
    }

    private void argued() {
        e.says(19, "THINGS for which two RULES of unlike PARTIES stand (where and when they come up), as bits.");
        String s = BARE + "beach 2; thing worth 1 at 2 from 0; thing worth 1 at 2 from 1; thing worth 1 at 1 from 0;";
        e.is(e.told(s), 0, "argued");
        e.is(e.told(s + "rule 2 to 2 on ebb to 1;"), 0, "argued");
        e.is(e.told(s + "rule 2 to 2 on ebb to 1; rule 0 to 2 on ebb to 1;"), 0, "argued");
        e.is(e.told(s + "rule 2 to 2 on ebb to 1; rule 0 to 1 on ebb to 2;"), 0, "argued");
        e.is(e.told(s + "rule 2 to 2 on ebb to 1; rule 2 to 2 on flood to 2;"), 0, "argued");
        e.is(e.told(s + "rule 2 to 2 on ebb to 1; rule 2 to 2 on ebb to 2;"), 1, "argued");
        e.is(e.told(s + "rule 2 to 2 on flood to 1; rule 2 to 2 on flood to 2;"), 2, "argued");
        e.is(e.told(s + "rule 0 to 2 on flood ebb to 0;".repeat(5) + "rule 2 to 2 on ebb flood slack to 5;"), 3, "argued");
        String two = "rule 0 to 2 on flood ebb to 0; rule 0 to 2 on flood ebb to 1;";
        EbbWreck x = e.told(BARE + "beach 0;" + two + "thing worth 1 at 0 from 0;".repeat(8));
        e.is(x, 255, "argued");
        e.tell(x, BARE + "beach 0;" + two + "thing worth 1 at 0 from 0;");
        e.is(x, 1, "argued");
        e.is(e.told(TellingEdges.FULL), 0, "argued");
        e.says(19, "-2: there is no SHORE.");
        e.is(new EbbWreck(), -2, "argued");
        e.is(e.told(BARE), 0, "argued");
    }

    private void gaps() {
        e.says(20, "BEACHES of no RULE in a PHASE, as bits.");
        EbbWreck x = e.told(WIDE + "beach 0; beach 5; beach 11; rule 0 to 5 on flood to 0; rule 6 to 11 on ebb to 0;");
        e.is(x, 1 << 11, "gaps", 0);
        e.is(x, 1 + 32 + 2048, "gaps", 1);
        e.is(x, 1 + 32, "gaps", 2);
        e.is(e.told(BARE), 0, "gaps", 0);
        e.says(20, "-2: there is no such PHASE, no SHORE.");
        int[] bad = {-1, 3, MIN, MAX};
        for (int p : bad) {
            e.is(x, -2, "gaps", p);
        }
        for (int p = 0; p < 3; p++) {
            e.is(new EbbWreck(), -2, "gaps", p);
        }
    }

    private void idle() {
        e.says(21, "RULES that never decide (II) on any BEACH in any of their PHASES, as bits.");
        e.is(e.told(BARE), 0, "idle");
        e.is(e.told(BARE + "rule 0 to 2 on flood to 0;".repeat(6)), 63, "idle");
        e.is(e.told(BARE + "beach 1;" + "rule 0 to 2 on flood to 0;".repeat(6)), 62, "idle");
        e.is(e.told(BARE + "beach 0; rule 1 to 2 on flood to 0; rule 0 to 0 on flood to 0;"), 1, "idle");
        e.is(e.told(BARE + "beach 2; rule 0 to 1 on flood to 0; rule 1 to 2 on flood to 0;"), 1, "idle");
        e.is(e.told(BARE + "beach 1; rule 1 to 1 on flood to 0; rule 1 to 1 on ebb to 0; rule 0 to 2 on flood ebb to 1;"), 4, "idle");
        // It need not come to that: a RULE for slack decides in that PHASE, though slack has no HOURS here.
        e.is(e.told(BARE + "beach 1; rule 1 to 1 on slack to 0;"), 0, "idle");
        e.says(21, "-2: there is no SHORE.");
        e.is(new EbbWreck(), -2, "idle");
    }

    private void without() {
        e.says(22, "WANTED: the worth of a PARTY, if one RULE (of a number) is not there.");
        EbbWreck x = e.told(TellingEdges.FULL);
        e.is(x, 8 * 999, "without", 0, 5);
        e.is(x, 8 * 999, "without", 5, 5);
        e.is(x, 0, "without", 0, 0);
        EbbWreck bay = e.told(BAY);
        e.is(bay, 150, "without", 0, 2);
        e.is(bay, 0, "without", 0, 1);
        e.is(bay, 50, "without", 1, 3);
        e.is(bay, 0, "without", 3, 0);
        e.is(bay, 100, "without", 3, 1);
        e.says(22, "-2: there are none such.");
        long[][] bad = {{-1, 0}, {4, 0}, {6, 0}, {MIN, 0}, {MAX, 0}, {0, -1}, {0, 6}, {0, MIN}, {0, MAX}};
        for (long[] b : bad) {
            e.is(bay, -2, "without", b);
        }
        e.is(x, -2, "without", 6, 0);
        e.is(e.told(BARE), -2, "without", 0, 0);
        e.is(new EbbWreck(), -2, "without", 0, 0);
    }

    private void strike() {
        e.says(23, "The RULE without which a PARTY has most, if more than now, the first of several.");
        EbbWreck bay = e.told(BAY);
        e.is(bay, 0, "strike", 2);
        e.is(bay, 1, "strike", 3);
        String s = BARE + "beach 0; beach 1; beach 2; thing worth 8 at 0 from 0; thing worth 8 at 1 from 0; thing worth 9 at 2 from 0;";
        e.is(e.told(s + "rule 0 to 0 on ebb to 0; rule 1 to 1 on ebb to 0; rule 0 to 1 on ebb to 5;"), 0, "strike", 5);
        e.is(e.told(s + "rule 0 to 0 on ebb to 0; rule 2 to 2 on ebb to 0; rule 0 to 2 on ebb to 5;"), 1, "strike", 5);
        e.is(e.told(s + "rule 0 to 0 on flood to 0;".repeat(4) + "rule 0 to 2 on ebb to 0; rule 0 to 2 on ebb to 5;"), 4, "strike", 5);
        e.says(23, "NONE: none;");
        e.is(bay, -1, "strike", 1);
        e.is(e.told(BARE), -1, "strike", 0);
        e.is(e.told(s + "rule 0 to 2 on ebb to 5; rule 0 to 2 on ebb to 5;"), -1, "strike", 5);
        e.is(e.told(s + "rule 0 to 2 on ebb to 0; rule 0 to 2 on ebb to 0; rule 0 to 2 on ebb to 5;"), -1, "strike", 5);
        e.is(e.told(BARE + "beach 0; thing worth 0 at 0 from 0; rule 0 to 0 on ebb to 0; rule 0 to 0 on ebb to 1;"), -1, "strike", 1);
        e.says(23, "-2: there is none such, no SHORE.");
        refusesParties("strike", -2);
    }

    private void richest() {
        e.says(30, "The PARTY that has most, the least of several.");
        String s = BARE + "beach 0; beach 1; thing worth 5 at 0 from 0; thing worth 5 at 1 from 0; thing worth 1 at 1 from 0;";
        e.is(e.told(BARE), 0, "richest");
        e.is(e.told(s), 0, "richest");
        e.is(e.told(s + "rule 0 to 0 on ebb to 4; rule 1 to 1 on ebb to 5;"), 5, "richest");
        e.is(e.told(s + "rule 0 to 0 on ebb to 5; rule 1 to 1 on ebb to 4;"), 4, "richest");
        EbbWreck even = e.told(s + "rule 0 to 0 on ebb to 5; rule 1 to 1 on ebb to 3;");
        even.rate(2, 0);
        e.is(even, 3, "richest");
        even.rate(0, 6);
        e.is(even, 5, "richest");
        e.is(e.told(TellingEdges.FULL), 5, "richest");
        // What is nobody's counts for none, and what would be by another tide neither.
        e.is(e.told(s + "rule 0 to 0 on ebb to 3;"), 3, "richest");
        e.is(e.told(s + "rule 1 to 1 on ebb to 0; rule 0 to 0 on ebb to 3;"), 0, "richest");
        e.is(e.told(s + "rule 1 to 1 on flood to 0; rule 0 to 0 on ebb to 3;"), 3, "richest");
        e.says(30, "-2: there is no SHORE.");
        e.is(new EbbWreck(), -2, "richest");
    }

    private void meet() {
        e.says(31, "The first HOUR (to 400) in which two THINGS are afloat (not come up) in one CELL, pushed as done.");
        EbbWreck x = e.told(BARE + "beach 2; thing worth 1 at 0 from 0; thing worth 1 at 1 from 0; thing worth 1 at 1 from 99;"
                + "thing worth 1 at 2 from 3; thing worth 1 at 2 from 3; thing worth 1 at 2 from 4;");
        e.is(x, 99, "meet", 1, 2);
        e.is(x, 99, "meet", 2, 1);
        e.is(x, 3, "meet", 3, 4);
        x.shove(0, 399, 0);
        e.is(x, 400, "meet", 0, 1);
        x.undo();
        x.shove(0, 400, 0);
        e.is(x, -1, "meet", 0, 1);
        for (int c = 0; c < 12; c++) {
            e.is(e.told(WIDE + "thing worth 1 at " + c + " from 0; thing worth 1 at " + c + " from 0;"), 0, "meet", 0, 1);
        }
        e.says(31, "NONE: none;");
        x.anew();
        e.is(x, -1, "meet", 0, 1);
        // The one has come up on 2 as the other is thrown in there.
        e.is(x, -1, "meet", 3, 5);
        x.shove(0, 0, 0);
        x.shove(0, 10, 0);
        x.shove(1, 0, 1);
        x.shove(1, 1, 0);
        x.shove(1, 2, 0);
        e.is(x, 2, "meet", 0, 1);
        // Both come up on 1 in 6, and are never afloat there.
        EbbWreck both = e.told(BARE + "beach 1; thing worth 1 at 0 from 0; thing worth 1 at 2 from 0;");
        both.shove(0, 5, 0);
        both.shove(1, 5, 1);
        e.is(both, 6, "comes", 0);
        e.is(both, 6, "comes", 1);
        e.is(both, -1, "meet", 0, 1);
        e.says(31, "-2: there are none such, one twice.");
        long[][] bad = {{0, 0}, {5, 5}, {-1, 0}, {0, -1}, {6, 0}, {0, 6}, {8, 8}, {MIN, MAX}, {MAX, 0}};
        for (long[] b : bad) {
            e.is(x, -2, "meet", b);
        }
        e.is(new EbbWreck(), -2, "meet", 0, 1);
    }

    private void lasts() {
        e.says(32, "How many HOURS the PHASE of an HOUR (0 .. 2,000,000,000) lasts from that on (it, too).");
        for (int[] tide : TIDES) {
            EbbWreck x = e.told(shore(3, tide[0], tide[1], tide[2]));
            int[] round = roundOf(tide);
            for (int h = 0; h < round.length; h++) {
                int left = 1;
                while (round[(h + left) % round.length] == round[h]) {
                    left++;
                }
                e.is(x, left, "lasts", h);
                e.is(x, left, "lasts", h + round.length);
                int far = LAST - (LAST % round.length - h + round.length) % round.length;
                e.is(x, left, "lasts", far);
            }
        }
        EbbWreck longest = e.told(shore(3, 12, 6, 12));
        e.is(longest, 12, "lasts", 0);
        e.is(longest, 1, "lasts", 11);
        e.is(longest, 6, "lasts", 12);
        e.is(longest, 1, "lasts", 35);
        e.is(longest, 10, "lasts", LAST);
        e.says(32, "-2: there is none such, no SHORE.");
        refusesHours(longest, "lasts");
    }

    private void slacks() {
        e.says(33, "How many HOURS ahead of an HOUR (0 .. 2,000,000,000) are slack.");
        for (int[] tide : TIDES) {
            EbbWreck x = e.told(shore(3, tide[0], tide[1], tide[2]));
            int[] round = roundOf(tide);
            int ahead = 0;
            for (int h = 0; h < 3 * round.length; h++) {
                e.is(x, ahead, "slacks", h);
                ahead += round[h % round.length] == 1 ? 1 : 0;
            }
            long last = (long) LAST / round.length * 2 * tide[1];
            for (int h = 0; h < LAST % round.length; h++) {
                last += round[h] == 1 ? 1 : 0;
            }
            e.is(x, last, "slacks", LAST);
        }
        e.is(e.told(shore(3, 1, 6, 1)), 1714285714, "slacks", LAST);
        e.says(33, "-2 likewise.");
        refusesHours(e.told(shore(3, 12, 6, 12)), "slacks");
    }
}
