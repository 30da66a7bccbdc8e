/** Edges of slots, floats and sitters: SLOTS, Terms IV and V, promises 38, 41 to 48, 62 to 64. */
final class FloatEdges {
    private static final String BARE = TellingEdges.BARE;
    private static final String WIDE = TellingEdges.WIDE;
    private static final int MAX = Integer.MAX_VALUE;
    private static final int MIN = Integer.MIN_VALUE;

    private final Edges e;

    FloatEdges(Edges edges) {
        e = edges;
    }

    void all() {
        slots();
        pairs();
        fits();
        fitsAmiss();
        fit();
        ask();
        shares();
        share();
        seat();
        seats();
        rests();
        rest();
        row();
        write();
        paste();
    }

    private static String shore(int cells, int flood, int slack, int ebb) {
        return "shore cells " + cells + " flood " + flood + " slack " + slack + " ebb " + ebb + " odds 0;";
    }

    private EbbWreck floats(String text, int width, long... numbers) {
        EbbWreck x = e.told(text);
        Edges.writeAll(x, 0, width, numbers);
        return x;
    }

    private void slots() {
        e.says("SLOTS", "0 .. 3 have rows of numbers of 1, 2, 4 or 8 bytes (WIDTH 0 .. 3), at most 60, or nothing.");
        EbbWreck x = e.told(BARE);
        for (int slot = 0; slot < 4; slot++) {
            e.is(x, -6, "fits", slot);
            e.is(x, 0, "row", slot, slot, 60);
            e.is(x, slot + 1, "count", 12);
            e.is(x, 0, "write", slot, 59, 1);
            e.is(x, -7, "write", slot, 60, 1);
            e.is(x, 0, "write", slot, 0, -1);
            e.is(x, -2, "fits", slot);
            e.is(x, 0, "write", slot, 0, 0);
            e.is(x, 0, "write", slot, 59, 0);
            e.is(x, 49, "fits", slot);
        }
        e.is(x, -2, "row", 4, 0, 0);
        e.is(x, -2, "row", -1, 0, 0);
    }

    private void pairs() {
        e.says("IV", "A pair: steps -3 .. 3 by flood, and by ebb, the same for all CELLS, and no BEACH (II else): what is in the first CELL"
                + " in the HOUR is in the second one in the later HOUR (the same HOUR: the same CELL).");
        e.is(floats(WIDE, 0), 49, "fits", 0);
        // From 5 by one HOUR of flood: each of the seven steps by itself, and nothing farther.
        for (int to = 0; to < 12; to++) {
            boolean near = to >= 2 && to <= 8;
            e.is(floats(WIDE, 0, 5, 0, 1, to), near ? 7 : 0, "fits", 0);
            e.is(floats(WIDE, 0, 5, 1, 2, to), near ? 7 : 0, "fits", 0);
        }
        for (int steps = -3; steps <= 3; steps++) {
            EbbWreck x = floats(WIDE, 0, 5, 0, 1, 5 + steps, 5, 1, 2, 5 - steps);
            e.is(x, 1, "fits", 0);
            e.is(x, steps, "fit", 0, 0);
            e.is(x, -steps, "fit", 0, 1);
        }
        // From 0 on to 2, of 3 CELLS: (1, 1 .. 3), (2 and 3, 0 .. 3), (-3 .. 0, 2 and 3); BEACHES and currents are nothing to it.
        e.is(floats(BARE, 0, 0, 0, 2, 2), 19, "fits", 0);
        e.is(floats(BARE + "beach 0; beach 1; beach 2; current 0 flood 3 ebb 3; current 1 flood back 3 ebb 1;", 0, 0, 0, 2, 2), 19, "fits", 0);
        // The ends hold it: from 0 back, and from 2 on.
        e.is(floats(BARE, 0, 0, 0, 1, 0), 28, "fits", 0);
        e.is(floats(BARE, 0, 2, 0, 1, 2), 28, "fits", 0);
        e.is(floats(BARE, 0, 1, 0, 1, 1), 7, "fits", 0);
        // At slack it lies.
        e.is(floats(shore(3, 1, 1, 1), 0, 1, 1, 2, 1), 49, "fits", 0);
        e.is(floats(shore(3, 1, 1, 1), 0, 1, 1, 2, 2), 0, "fits", 0);
        e.is(floats(shore(3, 1, 6, 1), 0, 1, 1, 7, 1), 49, "fits", 0);
        e.is(floats(shore(3, 1, 6, 1), 0, 1, 1, 8, 1), 7, "fits", 0);
        int[] hours = {0, 1, 399, 400};
        for (int hour : hours) {
            e.is(floats(BARE, 1, 1, hour, hour, 1), 49, "fits", 0);
            e.is(floats(BARE, 1, 1, hour, hour, 2), 0, "fits", 0);
        }
    }

    private void fits() {
        e.says(41, "CURRENTS (IV): a SLOT's row, four numbers each: CELL, HOUR, later HOUR (HOURS 0 .. 400), CELL: pairs of steps that"
                + " fit all: how many.");
        e.is(floats(BARE, 0), 49, "fits", 0);
        e.is(floats(BARE, 1, 2, 399, 400, 1), 7, "fits", 0);
        int[][] tides = {{3, 1, 0, 1}, {12, 1, 0, 1}, {12, 12, 6, 12}, {5, 2, 1, 3}, {4, 1, 6, 1}};
        for (int[] t : tides) {
            int[] spans = {0, 0, 0, 1, 0, 12, 0, 399, 0, 400, 1, 400, 7, 36, 201, 400, 150, 251};
            for (int s = 0; s < spans.length; s += 2) {
                int from = s % t[0];
                for (int to = 0; to < t[0]; to++) {
                    EbbWreck x = floats(shore(t[0], t[1], t[2], t[3]), 1, from, spans[s], spans[s + 1], to);
                    e.is(x, hourByHour(t, from, spans[s], spans[s + 1], to), "fits", 0);
                }
            }
        }
        e.is(floats(BARE, 1, 0, 0, 400, 0, 2, 0, 0, 2), 23, "fits", 0);
        // Fifteen floats: the last alone tells that flood is 1.
        long[] most = new long[60];
        for (int i = 0; i < 60; i += 4) {
            most[i + 2] = i == 56 ? 1 : 0;
            most[i + 3] = i == 56 ? 1 : 0;
        }
        for (int width = 0; width < 4; width++) {
            e.is(floats(BARE, width, most), 7, "fits", 0);
        }
        EbbWreck other = e.told(BARE);
        Edges.writeAll(other, 3, 3, 1, 0, 1, 2);
        e.is(other, 21, "fits", 3);
        e.is(floats(BARE, 0, 1, 0, 1, 2, 1, 0, 1, 0), 0, "fits", 0);
    }

    /** How many pairs take a float there, each HOUR by itself. */
    private static int hourByHour(int[] tide, int from, int hour, int later, int to) {
        int round = tide[1] + tide[3] + 2 * tide[2];
        int fit = 0;
        for (int pair = 0; pair < 49; pair++) {
            int cell = from;
            for (int h = hour; h < later; h++) {
                int in = h % round;
                boolean isEbb = in >= tide[1] + tide[2] && in < round - tide[2];
                cell += in < tide[1] ? pair / 7 - 3 : isEbb ? pair % 7 - 3 : 0;
                cell = Math.max(0, Math.min(tide[0] - 1, cell));
            }
            fit += cell == to ? 1 : 0;
        }
        return fit;
    }

    private void fitsAmiss() {
        e.says(41, "-2: there is no such SLOT, no SHORE, a number is none such (the later HOUR less, too; asked last), not four each;");
        EbbWreck none = new EbbWreck();
        EbbWreck x = floats(BARE, 3, 0, 0, 0, 0);
        int[] bad = {-1, 4, MIN, MAX};
        for (int slot : bad) {
            amiss(x, slot, -2);
            amiss(none, slot, -2);
        }
        for (int slot = 0; slot < 4; slot++) {
            amiss(none, slot, -2);
        }
        Edges.writeAll(none, 0, 3, 0, 0, 0, 0);
        amiss(none, 0, -2);
        e.tell(none, BARE);
        e.is(none, 49, "fits", 0);
        long[] far = {-1, 3, 12, 401, Long.MIN_VALUE, Long.MAX_VALUE, 1L << 32, -(1L << 32)};
        for (long v : far) {
            for (int i = 0; i < 4; i++) {
                // As the first HOUR it is above the later one, that is 0.
                boolean fine = i == 2 && v >= 0 && v <= 400;
                x.write(0, i, v);
                if (fine) {
                    e.due("an HOUR " + v, x.fits(0) >= 0 ? 1 : 0, 1);
                } else {
                    amiss(x, 0, -2);
                }
                x.write(0, i, 0);
            }
        }
        e.is(x, 49, "fits", 0);
        Edges.writeAll(x, 0, 3, 2, 400, 400, 2);
        e.is(x, 49, "fits", 0);
        Edges.writeAll(x, 0, 3, 2, 400, 399, 2);
        amiss(x, 0, -2);
        Edges.writeAll(x, 0, 3, 2, 401, 401, 2);
        amiss(x, 0, -2);
        Edges.writeAll(x, 0, 3, 2, 400, 401, 2);
        amiss(x, 0, -2);
        Edges.writeAll(x, 0, 3, 0, 1, 0, 0);
        amiss(x, 0, -2);
        e.is(floats(WIDE, 0, 11, 0, 0, 11), 49, "fits", 0);
        amiss(floats(WIDE, 0, 12, 0, 0, 12), 0, -2);
        amiss(floats(WIDE, 0, 11, 0, 0, 12), 0, -2);
        for (int size = 0; size <= 60; size++) {
            x.row(1, 0, size);
            if (size % 4 == 0) {
                e.is(x, 49, "fits", 1);
            } else {
                amiss(x, 1, -2);
            }
        }
        x.write(1, 59, 3);
        amiss(x, 1, -2);
        x.write(1, 59, 0);
        x.write(1, 57, 1);
        amiss(x, 1, -2);
        e.says(41, "-6: it has nothing.");
        for (int slot = 0; slot < 4; slot++) {
            amiss(e.told(BARE), slot, -6);
        }
        amiss(x, 2, -6);
        amiss(x, 3, -6);
    }

    private void amiss(EbbWreck x, int slot, int answer) {
        e.is(x, answer, "fits", slot);
        e.is(x, -1000, "fit", slot, 0);
        e.is(x, -1000, "fit", slot, 1);
        e.is(x, answer, "ask", slot);
        e.is(x, answer, "leaves", slot);
    }

    private void fit() {
        e.says(42, "Steps by flood (what 0), by ebb (1) of the first such (those that, each taken as above 0, are least together,"
                + " of these the least by flood, then by ebb).");
        e.is(floats(BARE, 0), 0, "fit", 0, 0);
        e.is(floats(BARE, 0), 0, "fit", 0, 1);
        // (0, 2), (1, 1) and (2, 0) are 2 together.
        EbbWreck two = floats(BARE, 0, 0, 0, 2, 2);
        e.is(two, 0, "fit", 0, 0);
        e.is(two, 2, "fit", 0, 1);
        // Back by 2 from 2 to 0: (-2, 0), (-1, -1), (0, -2).
        EbbWreck back = floats(BARE, 0, 2, 0, 2, 0);
        e.is(back, -2, "fit", 0, 0);
        e.is(back, 0, "fit", 0, 1);
        // On as far as the end: 2 is enough, and 3 is more.
        EbbWreck end = floats(BARE, 0, 0, 0, 1, 2, 2, 1, 2, 0);
        e.is(end, 4, "fits", 0);
        e.is(end, 2, "fit", 0, 0);
        e.is(end, -2, "fit", 0, 1);
        // Of (-3, 0) and (-2, 0) the other is less; with 3 steps by ebb, or by flood, the other is any.
        EbbWreck less = floats(BARE, 0, 2, 0, 1, 0, 1, 1, 2, 1);
        e.is(less, 2, "fits", 0);
        e.is(less, -2, "fit", 0, 0);
        e.is(less, 0, "fit", 0, 1);
        for (int steps = -3; steps <= 3; steps++) {
            EbbWreck flood = floats(WIDE, 0, 5, 0, 1, 5 + steps);
            e.is(flood, steps, "fit", 0, 0);
            e.is(flood, 0, "fit", 0, 1);
            EbbWreck ebb = floats(WIDE, 0, 5, 1, 2, 5 + steps);
            e.is(ebb, 0, "fit", 0, 0);
            e.is(ebb, steps, "fit", 0, 1);
        }
        e.says(42, "-1,000: no pair fits, there is no such what, or as fits() is -2, -6.");
        EbbWreck never = floats(BARE, 0, 0, 0, 0, 1);
        e.is(never, 0, "fits", 0);
        e.is(never, -1000, "fit", 0, 0);
        e.is(never, -1000, "fit", 0, 1);
        int[] bad = {-1, 2, 3, MIN, MAX};
        for (int what : bad) {
            e.is(two, -1000, "fit", 0, what);
        }
        e.is(floats(BARE, 0, 0, 0, 0), -1000, "fit", 0, 0);
        e.is(e.told(BARE), -1000, "fit", 0, 0);
        e.is(new EbbWreck(), -1000, "fit", 0, 0);
        e.is(two, -1000, "fit", 4, 0);
        e.is(two, -1000, "fit", -1, 0);
    }

    private void ask() {
        e.says(43, "ASK: the CELL in which a float is let go in HOUR 0, looked for in HOUR 12, that leaves fewest pairs at worst, if fewer than"
                + " now, the first of several.");
        // Twelve HOURS of flood: back is to 0, on is to 11, and where it was by none: 21, 21, 7; from an end 28 and 21.
        EbbWreck x = floats(shore(12, 12, 0, 12), 0);
        e.is(x, 1, "ask", 0);
        e.says(44, "How many it leaves at worst");
        e.is(x, 21, "leaves", 0);
        // With an ebb in HOUR 11 of each 21 just 12 stay at the end; from 4 on what lies by flood is not there.
        EbbWreck ebb = floats(shore(12, 11, 0, 12), 0);
        e.is(ebb, 12, "leaves", 0);
        e.is(ebb, 4, "ask", 0);
        EbbWreck after = floats(shore(12, 11, 1, 12), 0);
        e.is(after, 21, "leaves", 0);
        e.is(after, 1, "ask", 0);
        // Ebb is 1, and of 3 CELLS the middle one tells three ways: 3, 1, 3.
        EbbWreck first = floats(shore(3, 12, 0, 12), 0, 0, 12, 13, 1);
        e.is(first, 7, "fits", 0);
        e.is(first, 1, "ask", 0);
        e.is(first, 3, "leaves", 0);
        // Ebb is 0, flood 0 or more: from 0 on each is by itself.
        EbbWreck zero = floats(shore(12, 1, 6, 12), 0, 5, 7, 8, 5, 11, 0, 1, 11);
        e.is(zero, 4, "fits", 0);
        e.is(zero, 0, "ask", 0);
        e.is(zero, 1, "leaves", 0);
        // Of 3 CELLS, flood 0 or back: from the last one 2, 1, 1, from others 3 or 4 stay.
        EbbWreck last = floats(shore(3, 1, 6, 12), 0, 1, 7, 8, 1, 0, 0, 1, 0);
        e.is(last, 4, "fits", 0);
        e.is(last, 2, "ask", 0);
        e.is(last, 2, "leaves", 0);
        e.says(43, "NONE: none; -2, -6 as fits().");
        EbbWreck known = floats(shore(3, 12, 0, 12), 0, 0, 0, 1, 1);
        e.is(known, 7, "fits", 0);
        e.is(known, -1, "ask", 0);
        EbbWreck one = floats(WIDE, 0, 5, 0, 1, 5, 5, 1, 2, 5);
        e.is(one, -1, "ask", 0);
        // Flood is 1, 2 or 3, and eleven HOURS long: from 0 on all are on 11 then.
        EbbWreck far = floats(shore(12, 11, 1, 12), 0, 10, 0, 1, 11, 5, 12, 13, 5);
        e.is(far, 3, "fits", 0);
        e.is(far, -1, "ask", 0);
        EbbWreck never = floats(BARE, 0, 0, 0, 0, 1);
        e.is(never, -1, "ask", 0);
        e.is(e.told(BARE), -6, "ask", 0);
        e.is(new EbbWreck(), -2, "ask", 0);
        e.is(one, -2, "ask", 4);
        e.is(floats(BARE, 0, 0, 0, 0), -2, "ask", 0);
        e.says(44, "(as now without).");
        e.is(known, 7, "leaves", 0);
        e.is(far, 3, "leaves", 0);
        e.is(one, 1, "leaves", 0);
        e.is(never, 0, "leaves", 0);
        e.says(44, "-2, -6 likewise.");
        e.is(e.told(BARE), -6, "leaves", 0);
        e.is(new EbbWreck(), -2, "leaves", 0);
        e.is(one, -2, "leaves", 4);
        e.is(one, -2, "leaves", -1);
        e.is(floats(BARE, 0, 0, 0, 0), -2, "leaves", 0);
    }

    /** HOUR 0 flood, 1 slack, 2 ebb, 3 slack; nothing moves. */
    private static final String LAG = shore(4, 1, 1, 1) + "beach 0; beach 3;";

    private void shares() {
        e.says("V", "What comes up at slack, and is of no RULE, is of those who sit on that CELL, each has its worth by how many they are, cut.");
        String thing = LAG + "thing worth 998 at 0 from 0;";
        e.is(e.told(thing + "sitter at 0;"), 998, "share", 0);
        e.is(e.told(thing + "sitter at 0; sitter at 0;"), 499, "share", 1);
        e.is(e.told(thing + "sitter at 0; sitter at 0; sitter at 0;"), 332, "share", 2);
        e.is(e.told(thing + "sitter at 0; sitter at 1; sitter at 3;"), 998, "share", 0);
        e.is(e.told(thing + "sitter at 1; sitter at 0;"), 0, "share", 0);
        // Of each thing apart: 2 and 2 and 5 by 3 are 0 and 0 and 1.
        EbbWreck each = e.told(LAG + "thing worth 2 at 0 from 0; thing worth 2 at 0 from 2; thing worth 5 at 0 from 4;"
                + "sitter at 0; sitter at 0; sitter at 0;");
        e.is(each, 1, "share", 0);
        e.is(each, 1, "share", 2);
        // Not at ebb, not at flood.
        e.is(e.told(LAG + "thing worth 9 at 0 from 1; thing worth 9 at 0 from 3; thing worth 4 at 0 from 2; sitter at 0;"), 4, "share", 0);
        e.is(e.told(thing + "rule 0 to 0 on slack to 0; sitter at 0;"), 0, "share", 0);
        e.is(e.told(thing + "rule 0 to 0 on flood ebb to 0; rule 1 to 3 on slack to 0; sitter at 0;"), 998, "share", 0);
        e.is(e.told(LAG + "thing worth 0 at 0 from 0; sitter at 0;"), 0, "share", 0);
        e.is(e.told(LAG + "thing worth 5 at 1 from 0; sitter at 1;"), 0, "share", 0);
    }

    private void share() {
        e.says(38, "The worth that a SITTER has now (V).");
        EbbWreck x = e.told(LAG + "thing worth 999 at 0 from 0; thing worth 7 at 3 from 0; sitter at 0; sitter at 0; sitter at 3;");
        e.is(x, 499, "share", 0);
        e.is(x, 7, "share", 2);
        x.sit(1, 3);
        e.is(x, 999, "share", 0);
        e.is(x, 3, "share", 1);
        e.is(x, 3, "share", 2);
        x.undo();
        x.shove(0, 0, 0);
        e.is(x, 0, "share", 0);
        x.undo();
        x.rate(0, 1);
        e.is(x, 0, "share", 0);
        e.says(38, "-2: there is none such.");
        refusesSitters("share");
    }

    private void refusesSitters(String name, long... more) {
        long[] bad = {-1, 3, MIN, MAX};
        EbbWreck full = e.told(TellingEdges.FULL);
        EbbWreck one = e.told(BARE + "sitter at 0;");
        for (long sitter : bad) {
            e.is(full, -2, name, behind(sitter, more));
            e.is(one, -2, name, behind(sitter, more));
        }
        e.due(name + " 2 of 3", Edges.call(full, name, behind(2, more)) == -2 ? 1 : 0, 0);
        e.is(one, -2, name, behind(1, more));
        e.is(e.told(BARE), -2, name, behind(0, more));
        e.is(new EbbWreck(), -2, name, behind(0, more));
    }

    private static long[] behind(long first, long... more) {
        long[] args = new long[1 + more.length];
        args[0] = first;
        System.arraycopy(more, 0, args, 1, more.length);
        return args;
    }

    private void seat() {
        e.says(45, "SEAT: the worth that a SITTER has (V), if he sits on a CELL, the others as they are.");
        EbbWreck x = e.told(LAG + "thing worth 999 at 0 from 0; thing worth 7 at 3 from 0; sitter at 0; sitter at 0; sitter at 3;");
        long[][] due = {{499, 0, 0, 3}, {499, 0, 0, 3}, {333, 0, 0, 7}};
        for (int s = 0; s < 3; s++) {
            for (int c = 0; c < 4; c++) {
                e.is(x, due[s][c], "seat", s, c);
            }
        }
        e.is(x, 0, "sitter", 0);
        e.says(45, "-2: there are none such.");
        refusesSitters("seat", 0);
        int[] bad = {-1, 4, MIN, MAX};
        for (int c : bad) {
            e.is(x, -2, "seat", 0, c);
        }
        e.is(e.told(TellingEdges.FULL), 0, "seat", 2, 11);
        e.is(e.told(TellingEdges.FULL), -2, "seat", 2, 12);
    }

    private void seats() {
        e.says(46, "The CELL by which that is most, the first of several.");
        String s = WIDE.replace("slack 0", "slack 1") + "beach 0; beach 11; sitter at 5; sitter at 11;";
        e.is(e.told(s), 0, "seats", 0);
        e.is(e.told(s + "thing worth 1 at 11 from 0;"), 0, "seats", 0);
        e.is(e.told(s + "thing worth 2 at 11 from 0;"), 11, "seats", 0);
        e.is(e.told(s + "thing worth 1 at 11 from 0;"), 11, "seats", 1);
        e.is(e.told(s + "thing worth 2 at 11 from 0; thing worth 1 at 0 from 0;"), 0, "seats", 0);
        e.is(e.told(s + "thing worth 4 at 11 from 0; thing worth 1 at 0 from 0;"), 11, "seats", 0);
        e.is(e.told(BARE + "sitter at 2;"), 0, "seats", 0);
        e.is(e.told(s + "beach 1; thing worth 5 at 1 from 0; thing worth 4 at 11 from 0;"), 1, "seats", 0);
        // Where he sits alone now he is alone, too, if he stays.
        EbbWreck stays = e.told(s + "thing worth 7 at 0 from 0; thing worth 10 at 11 from 0;");
        stays.sit(0, 0);
        stays.sit(1, 5);
        e.is(stays, 11, "seats", 0);
        stays.anew();
        stays.rate(0, 10);
        stays.rate(1, 7);
        stays.sit(0, 0);
        stays.sit(1, 5);
        e.is(stays, 0, "seats", 0);
        e.says(46, "-2: there is none such.");
        refusesSitters("seats");
    }

    private static String beaches(int from, int to) {
        StringBuilder s = new StringBuilder();
        for (int c = from; c <= to; c++) {
            s.append("beach ").append(c).append(';');
        }
        return s.toString();
    }

    private void rests() {
        e.says(47, "REST: ways of all SITTERS to sit, each on some BEACH, by which none has more by another BEACH: how many (1 without SITTERS).");
        e.is(e.told(BARE), 1, "rests");
        e.is(e.told(BARE + "beach 0;"), 1, "rests");
        e.is(e.told(BARE + "sitter at 0;"), 0, "rests");
        e.is(e.told(WIDE + beaches(0, 11) + "sitter at 0;"), 12, "rests");
        e.is(e.told(WIDE + beaches(0, 11) + "sitter at 0; sitter at 0;"), 144, "rests");
        e.is(e.told(WIDE + beaches(0, 11) + "sitter at 0; sitter at 0; sitter at 0;"), 1728, "rests");
        e.is(e.told(WIDE + beaches(3, 4) + "sitter at 0; sitter at 0; sitter at 0;"), 8, "rests");
        // The one who sits where nothing comes up has more by the other BEACH; alike is not more.
        e.is(e.told(LAG + "thing worth 5 at 0 from 0; sitter at 3;"), 1, "rests");
        e.is(e.told(LAG + "thing worth 5 at 0 from 0; thing worth 5 at 3 from 0; sitter at 3;"), 2, "rests");
        e.is(e.told(LAG + "thing worth 1 at 0 from 0; sitter at 3; sitter at 3;"), 3, "rests");
        e.is(e.told(LAG + "thing worth 2 at 0 from 0; sitter at 3; sitter at 3;"), 1, "rests");
        // CELLS that are no BEACH are none to sit on, whoever sits there now.
        e.is(e.told(LAG + "sitter at 1; sitter at 2;"), 4, "rests");
        e.says(47, "-2: there is no SHORE.");
        e.is(new EbbWreck(), -2, "rests");
    }

    private void rest() {
        e.says(48, "The CELL of a SITTER by the first such (the least row).");
        EbbWreck x = e.told(WIDE + beaches(3, 11) + "sitter at 0; sitter at 0; sitter at 0;");
        EbbWreck zero = e.told(WIDE + beaches(0, 11) + "sitter at 5; sitter at 6; sitter at 7;");
        for (int s = 0; s < 3; s++) {
            e.is(x, 3, "rest", s);
            e.is(zero, 0, "rest", s);
        }
        EbbWreck last = e.told(WIDE.replace("slack 0", "slack 1") + "beach 0; beach 11; thing worth 4 at 11 from 0; thing worth 1 at 0 from 0;"
                + "sitter at 0; sitter at 0; sitter at 0;");
        // Rows: 0 11 11 is the least by which none has more: 1, 2, 2; from 0 he would have 1 by three, from 11 0 by two.
        e.is(last, 0, "rest", 0);
        e.is(last, 11, "rest", 1);
        e.is(last, 11, "rest", 2);
        EbbWreck only = e.told(LAG + "thing worth 3 at 3 from 0; sitter at 0; sitter at 0; sitter at 0;");
        for (int s = 0; s < 3; s++) {
            e.is(only, 3, "rest", s);
        }
        e.says(48, "NONE: there is none;");
        e.is(e.told(BARE + "sitter at 0;"), -1, "rest", 0);
        e.is(e.told(BARE + "sitter at 0; sitter at 1; sitter at 2;"), -1, "rest", 2);
        e.says(48, "-2: there is none such.");
        refusesSitters("rest");
    }

    /** SLOT 0 has a row of 8, 1 one of 60, both of WIDTH 1, 2 one of none of WIDTH 3, and 3 nothing. */
    private void rows(EbbWreck x) {
        e.tell(x, BARE);
        Edges.writeAll(x, 0, 1, 0, 0, 1, 1, 2, 0, 0, 2);
        x.row(1, 1, 60);
        for (int i = 0; i < 60; i += 4) {
            x.write(1, i, i / 4 % 3);
            x.write(1, i + 2, 1);
            x.write(1, i + 3, i / 12 % 3);
        }
        x.row(2, 3, 0);
    }

    private void row() {
        e.says(62, "A SLOT (0 .. 3) has a row of n numbers of a WIDTH, all 0 (in place of another one): 0.");
        EbbWreck x = e.told(BARE);
        for (int slot = 0; slot < 4; slot++) {
            for (int width = 0; width < 4; width++) {
                e.is(x, 0, "row", slot, width, 4);
                e.is(x, 49, "fits", slot);
                e.is(x, 0, "write", slot, 3, 1);
                e.is(x, 0, "fits", slot);
                e.is(x, -7, "write", slot, 4, 1);
                e.is(x, 0, "row", slot, width, 60);
                e.is(x, 49, "fits", slot);
                e.is(x, 0, "write", slot, 59, 1);
                e.is(x, -7, "write", slot, 60, 1);
                e.is(x, 0, "row", slot, width, 0);
                e.is(x, 49, "fits", slot);
                e.is(x, -7, "write", slot, 0, 1);
                e.is(x, 0, "row", slot, width, 1);
                e.is(x, 0, "write", slot, 0, 1);
                e.is(x, -7, "write", slot, 1, 1);
            }
        }
        e.says(62, "-2: there is no such SLOT or WIDTH (0 .. 3), or n is above 60;");
        long[][] bad = {{-1, 0, 1}, {4, 0, 1}, {MIN, 0, 1}, {MAX, 0, 1}, {0, -1, 1}, {0, 4, 1}, {0, MIN, 1}, {0, MAX, 1}, {0, 0, 61},
            {0, 3, 61}, {1, 1, MAX}, {3, 0, 61}, {4, 4, 61}, {4, 0, -1}, {-1, 0, -1}, {0, 4, -1}, {0, -1, -1}, {3, 4, 0}};
        for (long[] b : bad) {
            e.leaves(this::rows, -2, "row", b);
        }
        e.says(62, "-3, and the SLOT stays: n is below 0.");
        long[][] below = {{0, 1, -1}, {1, 1, -1}, {0, 0, MIN}, {1, 3, -60}, {2, 3, -1}, {3, 0, -1}, {3, 3, MIN}};
        for (long[] b : below) {
            e.leaves(this::rows, -3, "row", b);
        }
    }

    private void write() {
        e.says(63, "Number i of the SLOT's row is v, cut to its WIDTH: 0.");
        long[] ones = {255, 65535, 4294967295L, -1};
        for (int width = 0; width < 4; width++) {
            EbbWreck x = e.told(BARE);
            x.row(0, width, 4);
            // As many ones as it has bits are -1: no CELL; one more is cut away, and it is 0.
            e.is(x, 0, "write", 0, 0, ones[width]);
            e.is(x, -2, "fits", 0);
            e.is(x, 0, "write", 0, 0, width == 3 ? 0 : ones[width] + 1);
            e.is(x, 49, "fits", 0);
            long high = width == 3 ? Long.MIN_VALUE : ones[width] / 2 + 1;
            e.is(x, 0, "write", 0, 0, high);
            e.is(x, -2, "fits", 0);
            e.is(x, 0, "write", 0, 0, Long.MIN_VALUE + 1);
            e.is(x, width == 3 ? -2 : 0, "fits", 0);
            e.is(x, 0, "write", 0, 0, 2);
            e.is(x, 0, "write", 0, 3, width == 3 ? 2 : 2 - 8 * (ones[width] + 1));
            e.is(x, 49, "fits", 0);
        }
        EbbWreck bytes = e.told(BARE);
        Edges.writeAll(bytes, 0, 0, 0, 127, 127, 0);
        e.is(bytes, 49, "fits", 0);
        bytes.write(0, 2, 128);
        e.is(bytes, -2, "fits", 0);
        Edges.writeAll(bytes, 0, 1, 0, 127, 128, 0);
        e.is(bytes, 28, "fits", 0);
        e.says(63, "-2: there is no such SLOT;");
        int[] bad = {-1, 4, MIN, MAX};
        for (int slot : bad) {
            e.leaves(this::rows, -2, "write", slot, 0, 1);
            e.leaves(this::rows, -2, "write", slot, -1, 1);
        }
        e.is(new EbbWreck(), -2, "write", 4, 0, 0);
        e.says(63, "-6: it has nothing;");
        e.leaves(this::rows, -6, "write", 3, 0, 1);
        e.leaves(this::rows, -6, "write", 3, -1, 1);
        e.leaves(this::rows, -6, "write", 3, 60, 1);
        e.is(new EbbWreck(), -6, "write", 0, 0, 0);
        e.says(63, "-7: there is no such number.");
        long[][] beyond = {{0, -1, 1}, {0, 8, 1}, {0, MIN, 1}, {0, MAX, 1}, {0, 60, 1}, {1, 60, 1}, {1, -1, 1}, {2, 0, 1}, {2, -1, 1}};
        for (long[] b : beyond) {
            e.leaves(this::rows, -7, "write", b);
        }
    }

    private void paste() {
        e.says(64, "So many numbers of a SLOT's row, from one on, are put to another one's (or its own), from one on, as they were: 0.");
        EbbWreck x = e.told(BARE);
        Edges.writeAll(x, 0, 0, 9, 9, 0, 0, 1, 1);
        x.row(1, 0, 4);
        e.is(x, 0, "paste", 0, 2, 1, 0, 4);
        e.is(x, 7, "fits", 1);
        x.row(1, 0, 60);
        e.is(x, 0, "paste", 0, 2, 1, 56, 4);
        e.is(x, 7, "fits", 1);
        e.is(x, 0, "paste", 1, 0, 1, 0, 60);
        e.is(x, 7, "fits", 1);
        e.is(x, 0, "paste", 0, 6, 1, 60, 0);
        e.is(x, 0, "paste", 1, 60, 1, 0, 0);
        e.is(x, 7, "fits", 1);
        // 0 0 1 1 goes one on within its own row: x 0 0 1 1, and one back again.
        Edges.writeAll(x, 2, 1, 0, 0, 1, 1, 7);
        e.is(x, 0, "paste", 2, 0, 2, 1, 4);
        x.row(3, 1, 4);
        e.is(x, 0, "paste", 2, 1, 3, 0, 4);
        e.is(x, 7, "fits", 3);
        e.is(x, 0, "paste", 2, 1, 2, 0, 4);
        e.is(x, 0, "paste", 2, 0, 3, 0, 4);
        e.is(x, 7, "fits", 3);
        // In place of 0 0 1 1 stand the fifteen floats that are all 0.
        EbbWreck most = e.told(BARE);
        most.row(0, 3, 60);
        Edges.writeAll(most, 1, 3, 0, 0, 1, 1);
        e.is(most, 0, "paste", 0, 56, 1, 0, 4);
        e.is(most, 49, "fits", 1);
        e.says(64, "-2: there is no such SLOT;");
        long[][] none = {{-1, 0, 0, 0, 0}, {4, 0, 0, 0, 0}, {0, 0, -1, 0, 0}, {0, 0, 4, 0, 0}, {MIN, 0, MAX, 0, 0}, {3, 0, 4, 0, 0},
            {4, 0, 3, 0, 0}, {4, -1, 0, -1, -1}};
        for (long[] b : none) {
            e.leaves(this::rows, -2, "paste", b);
        }
        e.says(64, "-6: one has nothing;");
        long[][] nothing = {{3, 0, 0, 0, 0}, {0, 0, 3, 0, 0}, {3, 0, 3, 0, 0}, {3, -1, 2, 0, 1}, {2, 0, 3, 9, 1}};
        for (long[] b : nothing) {
            e.leaves(this::rows, -6, "paste", b);
        }
        e.says(64, "-8: they are not of one WIDTH;");
        long[][] unlike = {{0, 0, 2, 0, 0}, {2, 0, 0, 0, 0}, {1, 0, 2, 0, 1}, {0, -1, 2, 0, 0}, {0, 0, 2, 0, -1}};
        for (long[] b : unlike) {
            e.leaves(this::rows, -8, "paste", b);
        }
        for (int from = 0; from < 4; from++) {
            for (int to = 0; to < 4; to++) {
                EbbWreck y = new EbbWreck();
                y.row(0, from, 1);
                y.row(1, to, 1);
                e.is(y, from == to ? 0 : -8, "paste", 0, 0, 1, 0, 1);
            }
        }
        e.says(64, "-7, and nothing happens: some are beyond their rows, or a place or n is below 0.");
        long[][] beyond = {{1, 0, 0, 0, 9}, {0, 0, 1, 53, 8}, {0, 1, 1, 0, 8}, {0, 0, 1, 0, 9}, {1, 53, 0, 0, 8}, {0, -1, 1, 0, 1},
            {0, 0, 1, -1, 1}, {0, 0, 1, 0, -1}, {0, 9, 1, 0, 0}, {0, 0, 1, 61, 0}, {0, 8, 1, 0, 1}, {1, 0, 0, 8, 1}, {0, 0, 0, 1, 8},
            {0, MAX, 1, 0, 1}, {0, 0, 1, MAX, 1}, {0, 0, 1, 0, MAX}, {0, MAX, 1, MAX, MAX}, {0, 0, 1, 0, MIN}, {0, MIN, 1, 0, MIN},
            {0, MAX, 1, 0, MIN}, {0, -1, 0, -1, 0}, {2, 0, 2, 0, 1}, {2, 1, 2, 0, 0}, {1, 1, 0, 0, MAX}, {0, 1, 0, 0, 8}};
        for (long[] b : beyond) {
            e.leaves(this::rows, -7, "paste", b);
        }
        e.is(e.told(BARE), -6, "paste", 0, 0, 0, 0, 0);
    }
}
