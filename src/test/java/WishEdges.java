/** Edges of pushes that are wished for, and of what is thrown in and never pushed: promises 24 to 29, 34 to 37, 39, 40. */
final class WishEdges {
    private static final String BARE = TellingEdges.BARE;
    private static final String WIDE = TellingEdges.WIDE;
    private static final int MAX = Integer.MAX_VALUE;
    private static final int MIN = Integer.MIN_VALUE;
    /** Nothing moves by itself; on 11 all is party 5's. HOURS that are even are flood, the others ebb. */
    private static final String STILL = WIDE + "beach 11; rule 11 to 11 on flood ebb to 5;";

    private final Edges e;

    WishEdges(Edges edges) {
        e = edges;
    }

    void all() {
        pushes();
        pushAndWay();
        leastRows();
        soonest();
        ward();
        allOfThem();
        eddy();
        stuck();
        drop();
        drops();
        origins();
        when();
    }

    private static String shore(int cells, int flood, int slack, int ebb) {
        return "shore cells " + cells + " flood " + flood + " slack " + slack + " ebb " + ebb + " odds 0;";
    }

    private static String thing(int cell, int hour) {
        return "thing worth 1 at " + cell + " from " + hour + ";";
    }

    /** A call by THING and PARTY: with five THINGS, with eight, without any. */
    private void refusesWishes(String name, long... more) {
        EbbWreck bay = e.told(DriftEdges.BAY);
        EbbWreck full = e.told(TellingEdges.FULL);
        long[][] bad = {{5, 0}, {-1, 0}, {MIN, 0}, {MAX, 0}, {0, 6}, {0, -1}, {0, MIN}, {0, MAX}, {5, 6}, {-1, -1}};
        for (long[] b : bad) {
            long[] args = new long[2 + more.length];
            System.arraycopy(b, 0, args, 0, 2);
            System.arraycopy(more, 0, args, 2, more.length);
            e.is(bay, -2, name, args);
            args[0] = b[0] == 5 ? 8 : b[0];
            e.is(full, -2, name, args);
        }
        long[] last = new long[2 + more.length];
        last[0] = 7;
        last[1] = 5;
        e.due(name + " 7 5 is such", Edges.call(full, name, last) == -2 ? 1 : 0, 0);
        e.is(e.told(BARE), -2, name, new long[2 + more.length]);
        e.is(new EbbWreck(), -2, name, new long[2 + more.length]);
    }

    private void pushes() {
        e.says(24, "PUSH (III): the fewest pushes by which a THING (from its first HOUR on, pushes done aside) is a PARTY's,"
                + " coming up to HOUR 100.");
        EbbWreck x = e.told(STILL + thing(0, 0) + thing(0, 89) + thing(0, 90) + thing(10, 99) + thing(11, 99) + thing(9, 99) + thing(9, 98));
        e.is(x, 11, "pushes", 0, 5);
        e.is(x, 11, "pushes", 1, 5);
        e.is(x, 1, "pushes", 3, 5);
        e.is(x, 0, "pushes", 4, 5);
        e.is(x, 2, "pushes", 6, 5);
        e.says(24, "NONE: by none;");
        e.is(x, -1, "pushes", 2, 5);
        e.is(x, -1, "pushes", 5, 5);
        e.is(x, -1, "pushes", 0, 4);
        e.is(x, -1, "pushes", 4, 0);
        x.shove(4, 99, 1);
        x.shove(0, 0, 1);
        e.is(x, 0, "pushes", 4, 5);
        e.is(x, 11, "pushes", 0, 5);
        // By itself it comes up in 101 as 0's; in 100 it is flood, and 1's.
        EbbWreck late = e.told(BARE + "beach 2; current 1 flood 1 ebb 0; rule 2 to 2 on ebb to 0; rule 2 to 2 on flood to 1;" + thing(1, 99));
        e.is(late, 101, "comes", 0);
        e.is(late, 0, "whose", 0);
        e.is(late, -1, "pushes", 0, 0);
        e.is(late, 1, "pushes", 0, 1);
        e.is(late, 99, "push", 0, 1, 0);
        // By itself it comes up in 95 as 1's; held back in 94, and pushed on in 95, it comes up in 96, at flood.
        EbbWreck held = e.told(shore(3, 12, 0, 12) + "beach 2; current 1 flood 0 ebb 1; rule 2 to 2 on flood to 0; rule 2 to 2 on ebb to 1;" + thing(1, 94));
        e.is(held, 95, "comes", 0);
        e.is(held, 1, "whose", 0);
        e.is(held, 2, "pushes", 0, 0);
        e.is(held, 94, "push", 0, 0, 0);
        e.is(held, 1, "way", 0, 0, 0);
        e.is(held, 95, "push", 0, 0, 1);
        e.is(held, 0, "way", 0, 0, 1);
        e.says(24, "-2: there are none such.");
        refusesWishes("pushes");
    }

    private void pushAndWay() {
        e.says(25, "HOUR i of them (from 0)");
        EbbWreck x = e.told(STILL + thing(0, 89) + thing(11, 0) + thing(0, 90) + thing(10, 99));
        for (int i = 0; i < 11; i++) {
            e.is(x, 89 + i, "push", 0, 5, i);
        }
        e.is(x, 99, "push", 3, 5, 0);
        e.says(25, "NONE: there is none such; -2 likewise.");
        int[] bad = {-1, 11, 12, MIN, MAX};
        for (int i : bad) {
            e.is(x, -1, "push", 0, 5, i);
        }
        e.is(x, -1, "push", 1, 5, 0);
        e.is(x, -1, "push", 2, 5, 0);
        e.is(x, -1, "push", 0, 4, 0);
        e.is(x, -1, "push", 3, 5, 1);
        refusesWishes("push", 0);
        refusesWishes("push", -1);
        refusesWishes("push", 99);
        e.says(26, "1 if that is pushed back, 0 if on.");
        EbbWreck back = e.told(WIDE + "beach 0; rule 0 to 0 on flood ebb to 5;" + thing(11, 89));
        for (int i = 0; i < 11; i++) {
            e.is(x, 0, "way", 0, 5, i);
            e.is(back, 1, "way", 0, 5, i);
            e.is(back, 89 + i, "push", 0, 5, i);
        }
        e.says(26, "NONE, -2 likewise.");
        for (int i : bad) {
            e.is(x, -1, "way", 0, 5, i);
            e.is(back, -1, "way", 0, 5, i);
        }
        e.is(x, -1, "way", 1, 5, 0);
        e.is(x, -1, "way", 2, 5, 0);
        e.is(x, -1, "way", 0, 4, 0);
        refusesWishes("way", 0);
        refusesWishes("way", -1);
        refusesWishes("way", 99);
    }

    private void leastRows() {
        e.says(25, "by the first such (the least row of numbers 2 times an HOUR, and one more to push it back).");
        // On or back, each in its first HOUR, or later: the first HOUR, and on.
        EbbWreck both = e.told(BARE + "beach 0; beach 2; rule 0 to 2 on flood ebb to 0;" + thing(1, 0) + thing(1, 99));
        e.is(both, 0, "push", 0, 0, 0);
        e.is(both, 0, "way", 0, 0, 0);
        e.is(both, 99, "push", 1, 0, 0);
        e.is(both, 0, "way", 1, 0, 0);
        // Back in 0 is 1, on in 1 is 2: back in the first HOUR comes first.
        EbbWreck back = e.told(BARE + "beach 0; beach 2; rule 0 to 0 on ebb to 0; rule 2 to 2 on flood to 0;" + thing(1, 0));
        e.is(back, 0, "push", 0, 0, 0);
        e.is(back, 1, "way", 0, 0, 0);
        // On it is his at flood alone: on in 1, or back in 1, and on comes first.
        EbbWreck flood = e.told(BARE + "beach 0; beach 2; rule 0 to 2 on flood to 0;" + thing(1, 0));
        e.is(flood, 1, "push", 0, 0, 0);
        e.is(flood, 0, "way", 0, 0, 0);
        // From 2 to 4, his at slack in 12 .. 17: the first push at once, the other in 11 at the earliest.
        EbbWreck wait = e.told(shore(5, 12, 6, 12) + "beach 4; rule 4 to 4 on slack to 3;" + thing(2, 0));
        e.is(wait, 2, "pushes", 0, 3);
        e.is(wait, 0, "push", 0, 3, 0);
        e.is(wait, 11, "push", 0, 3, 1);
        e.is(wait, -1, "push", 0, 3, 2);
        // Each even HOUR takes it one on; it comes up at flood by a push in the odd HOUR in which it is on 10, and no other.
        EbbWreck odd = e.told(shore(12, 1, 0, 1) + DriftEdges.currents(11, "flood 1 ebb 0") + "beach 11; rule 11 to 11 on flood to 2;" + thing(0, 0));
        e.is(odd, 21, "comes", 0);
        e.is(odd, 1, "pushes", 0, 2);
        e.is(odd, 19, "push", 0, 2, 0);
        e.is(odd, 0, "way", 0, 2, 0);
    }

    private void soonest() {
        e.says(27, "The first HOUR in which it can be (to 100), however often it is pushed.");
        EbbWreck x = e.told(STILL + thing(0, 0) + thing(0, 89) + thing(0, 90) + thing(11, 0) + thing(11, 99) + thing(10, 99) + thing(9, 99));
        e.is(x, 11, "soonest", 0, 5);
        e.is(x, 100, "soonest", 1, 5);
        e.is(x, 1, "soonest", 3, 5);
        e.is(x, 100, "soonest", 4, 5);
        e.is(x, 100, "soonest", 5, 5);
        // Pushed as often as may be it is there sooner than by the fewest pushes.
        EbbWreck fast = e.told(shore(8, 12, 0, 12) + "beach 7; rule 7 to 7 on flood ebb to 0;" + DriftEdges.currents(7, "flood 1 ebb 0") + thing(0, 0));
        e.is(fast, 0, "pushes", 0, 0);
        e.is(fast, 7, "comes", 0);
        e.is(fast, 4, "soonest", 0, 0);
        // At slack it lies on the BEACH, if it is not pushed; a HOUR later the ebb would take it off.
        EbbWreck lies = e.told(shore(3, 1, 1, 1) + "beach 1; current 1 flood 1 ebb 1; rule 1 to 1 on ebb to 0;" + thing(1, 1));
        e.is(lies, 2, "soonest", 0, 0);
        e.says(27, "NONE, -2 as pushes().");
        e.is(x, -1, "soonest", 2, 5);
        e.is(x, -1, "soonest", 6, 5);
        e.is(x, -1, "soonest", 0, 0);
        refusesWishes("soonest");
    }

    private void ward() {
        e.says(28, "WARD: the fewest pushes (as pushes()) by which a THING does not come up as a PARTY's to HOUR 100.");
        EbbWreck x = e.told(STILL + thing(11, 99) + thing(10, 99) + thing(11, 0));
        e.is(x, 1, "ward", 0, 5);
        e.is(x, 0, "ward", 1, 5);
        e.is(x, 1, "ward", 2, 5);
        e.is(x, 0, "ward", 0, 4);
        x.shove(0, 99, 1);
        x.shove(1, 99, 0);
        e.is(x, 1, "ward", 0, 5);
        e.is(x, 0, "ward", 1, 5);
        // It comes up as 0's, but in 101.
        EbbWreck late = e.told(BARE + "beach 2; current 1 flood 1 ebb 0; rule 2 to 2 on ebb to 0;" + thing(1, 99));
        e.is(late, 0, "whose", 0);
        e.is(late, 0, "ward", 0, 0);
        // In each HOUR it goes one CELL on, and comes up as the ebb begins; pushed on once it does so at flood.
        EbbWreck held = e.told(shore(4, 3, 0, 3) + "beach 3;" + DriftEdges.currents(3, "flood 1 ebb 1") + "rule 3 to 3 on ebb to 1;" + thing(0, 0));
        e.is(held, 1, "whose", 0);
        e.is(held, 1, "ward", 0, 1);
        // Each CELL's current leads to the BEACH at once.
        EbbWreck hard = e.told(shore(3, 12, 0, 12) + "beach 2; rule 2 to 2 on flood to 1;" + DriftEdges.currents(2, "flood 2 ebb 0")
                + thing(0, 96));
        e.is(hard, 97, "comes", 0);
        e.is(hard, -1, "ward", 0, 1);
        e.says(28, "NONE: by none;");
        EbbWreck all = e.told(BARE + "beach 0; beach 1; beach 2; rule 0 to 2 on flood ebb to 2;" + thing(1, 0) + thing(1, 99) + thing(0, 50));
        for (int th = 0; th < 3; th++) {
            e.is(all, -1, "ward", th, 2);
            e.is(all, 0, "ward", th, 1);
        }
        e.says(28, "-2: there are none such.");
        refusesWishes("ward");
    }

    private void allOfThem() {
        e.says(29, "pushes() of all THINGS for a PARTY, together.");
        e.is(e.told(BARE), 0, "all", 0);
        e.is(e.told(STILL + thing(11, 0)), 0, "all", 5);
        e.is(e.told(STILL + thing(0, 0).repeat(7) + thing(0, 89)), 88, "all", 5);
        e.is(e.told(STILL + thing(10, 99) + thing(9, 98) + thing(8, 0)), 6, "all", 5);
        e.says(29, "NONE: one of them is NONE;");
        e.is(e.told(STILL + thing(0, 0).repeat(7) + thing(0, 90)), -1, "all", 5);
        e.is(e.told(STILL + thing(9, 99) + thing(11, 0)), -1, "all", 5);
        e.is(e.told(STILL + thing(11, 0)), -1, "all", 0);
        e.says(29, "-2: there is none such, no SHORE.");
        refusesParties("all");
    }

    private void refusesParties(String name, long... more) {
        long[] bad = {-1, 6, MIN, MAX};
        for (long party : bad) {
            e.is(e.told(BARE), -2, name, behind(party, more));
            e.is(e.told(TellingEdges.FULL), -2, name, behind(party, more));
        }
        for (int party = 0; party <= 5; party++) {
            e.is(new EbbWreck(), -2, name, behind(party, more));
            e.due(name + " " + party, Edges.call(e.told(BARE), name, behind(party, more)) == -2 ? 1 : 0, 0);
        }
    }

    private static long[] behind(long first, long... more) {
        long[] args = new long[1 + more.length];
        args[0] = first;
        System.arraycopy(more, 0, args, 1, more.length);
        return args;
    }

    private void eddy() {
        e.says(34, "EDDY: behind how many tides (flood, slack, ebb, slack) something thrown into a CELL in HOUR 0, never pushed, is"
                + " as a tide begins for the first time in a CELL where it was as one began.");
        EbbWreck all = e.told(DriftEdges.swapping(11, 6, 11));
        EbbWreck none = e.told(DriftEdges.swapping(12, 6, 12));
        EbbWreck one = e.told(DriftEdges.swapping(12, 6, 11));
        EbbWreck on = e.told(shore(12, 1, 0, 1) + DriftEdges.currents(12, "flood 1 ebb 0"));
        for (int c = 0; c < 12; c++) {
            e.is(all, 12, "eddy", c);
            e.is(none, 1, "eddy", c);
            e.is(one, c == 0 || c == 11 ? 1 : 2, "eddy", c);
            // It ends on 11, where it has not been ahead of that but for the tide just ahead.
            e.is(on, 12 - c, "eddy", c);
        }
        EbbWreck pushed = e.told(BARE + thing(0, 0));
        pushed.shove(0, 0, 0);
        e.is(pushed, 1, "eddy", 0);
        e.says(34, "NONE: it comes up ahead of that, or just then;");
        EbbWreck beached = e.told(shore(12, 1, 0, 1) + DriftEdges.currents(12, "flood 1 ebb 0") + "beach 11;");
        for (int c = 0; c < 12; c++) {
            e.is(beached, -1, "eddy", c);
        }
        // From the BEACH 2 to 1 by flood, and by ebb back: on 2 just as the tide begins.
        EbbWreck just = e.told(BARE + "beach 2; current 2 flood back 1 ebb 0; current 1 flood 0 ebb 1;");
        e.is(just, -1, "eddy", 2);
        e.is(just, -1, "eddy", 1);
        e.is(just, 1, "eddy", 0);
        // Without the BEACH it is back.
        e.is(e.told(BARE + "current 2 flood back 1 ebb 0; current 1 flood 0 ebb 1;"), 1, "eddy", 2);
        // Thrown in on a BEACH that it leaves for good.
        EbbWreck left = e.told(BARE + "beach 2; current 2 flood back 1 ebb 0;");
        e.is(left, 2, "eddy", 2);
        e.says(34, "-2: there is none such.");
        refusesCells("eddy");
    }

    private void refusesCells(String name) {
        EbbWreck x = e.told(BARE);
        EbbWreck wide = e.told(WIDE);
        int[] bad = {-1, MIN, MAX, 12};
        for (int c : bad) {
            e.is(x, -2, name, c);
            e.is(wide, -2, name, c);
        }
        e.is(x, -2, name, 3);
        e.due(name + " 2", Edges.call(x, name, 2) == -2 ? 1 : 0, 0);
        e.due(name + " 11", Edges.call(wide, name, 11) == -2 ? 1 : 0, 0);
        e.is(new EbbWreck(), -2, name, 0);
    }

    /** The HOUR in which what is thrown in then comes up, by drifts() alone; NONE: not to HOUR 400. */
    private int upBy(String text, int cell, int hour) {
        EbbWreck x = e.told(text);
        int beaches = 0;
        for (int c = 0; c < 12; c++) {
            beaches |= x.cell(c, 2) == 1 ? 1 << c : 0;
        }
        int now = cell;
        for (int h = hour; h < 400; h++) {
            now = x.drifts(now, h);
            if ((beaches >> now & 1) == 1) {
                return h + 1;
            }
        }
        return -1;
    }

    private void stuck() {
        e.says(35, "CELLS into which something thrown in HOUR 0, never pushed, does not come up to HOUR 400, as bits.");
        e.is(e.told(BARE), 7, "stuck");
        e.is(e.told(WIDE), 4095, "stuck");
        e.is(e.told(WIDE + "beach 0; beach 11;"), 4095 - 1 - 2048, "stuck");
        e.is(e.told(BARE + "beach 0; beach 1; beach 2;"), 0, "stuck");
        e.is(e.told(BARE + "beach 2; current 2 flood back 1 ebb 0;"), 7, "stuck");
        e.is(e.told(DriftEdges.swapping(11, 6, 11) + "beach 0;"), 0, "stuck");
        // It takes as long as can be: what is thrown in HOUR 0 comes up ahead of HOUR 400, or never.
        String slow = shore(12, 12, 6, 11) + "beach 4;" + steps(new int[] {2, -1, 3, -2, 0, 3, -3, 0, -2, 0, 0, 0},
                new int[] {-3, 0, 2, 0, 1, 0, 3, -1, 2, -2, 1, -3});
        int stuck = 0;
        int latest = 0;
        for (int c = 0; c < 12; c++) {
            int up = upBy(slow, c, 0);
            latest = Math.max(latest, up);
            stuck |= up == -1 ? 1 << c : 0;
        }
        e.due("the latest of these", latest, 369);
        e.is(e.told(slow), stuck, "stuck");
        EbbWreck pushed = e.told(BARE + "beach 1;" + thing(0, 0));
        pushed.shove(0, 0, 0);
        e.is(pushed, 5, "stuck");
        e.says(35, "-2: there is no SHORE.");
        e.is(new EbbWreck(), -2, "stuck");
    }

    private static String steps(int[] flood, int[] ebb) {
        StringBuilder s = new StringBuilder();
        for (int c = 0; c < flood.length; c++) {
            s.append("current ").append(c).append(" flood ").append(flood[c] < 0 ? "back " + -flood[c] : flood[c])
                    .append(" ebb ").append(ebb[c] < 0 ? "back " + -ebb[c] : ebb[c]).append(';');
        }
        return s.toString();
    }

    private void drop() {
        e.says(36, "CELLS into which something thrown in an HOUR (0 .. 99), never pushed, comes up to HOUR 400 as a PARTY's, as bits.");
        EbbWreck x = e.told(WIDE + "beach 0; beach 11; rule 0 to 0 on ebb to 0; rule 11 to 11 on flood to 5;" + thing(10, 0));
        x.shove(0, 0, 0);
        e.is(x, 1, "drop", 0, 0);
        e.is(x, 0, "drop", 5, 0);
        e.is(x, 0, "drop", 0, 1);
        e.is(x, 2048, "drop", 5, 1);
        e.is(x, 0, "drop", 0, 99);
        e.is(x, 2048, "drop", 5, 99);
        e.is(x, 1, "drop", 0, 98);
        String every = "beach 1; rule 1 to 1 on flood slack ebb to 5;";
        int[][] tides = {{9, 6, 11}, {11, 5, 11}, {11, 6, 11}};
        for (int[] tide : tides) {
            String text = DriftEdges.swapping(tide[0], tide[1], tide[2]) + every;
            int[] hours = {0, 75, 76, 77, 95, 96, 97, 99};
            for (int hour : hours) {
                int won = 0;
                for (int c = 0; c < 12; c++) {
                    won |= upBy(text, c, hour) == -1 ? 0 : 1 << c;
                }
                e.is(e.told(text), won, "drop", 5, hour);
                e.is(e.told(text), 0, "drop", 4, hour);
            }
        }
        e.due("just in 400", upBy(DriftEdges.swapping(9, 6, 11) + every, 2, 96), 400);
        e.due("in 401", upBy(DriftEdges.swapping(11, 5, 11) + every, 2, 96), -1);
        e.says(36, "-2: there are none such, no SHORE.");
        int[] bad = {-1, 100, MIN, MAX};
        for (int hour : bad) {
            e.is(x, -2, "drop", 0, hour);
            e.is(x, -2, "drop", 6, hour);
            e.is(new EbbWreck(), -2, "drop", 0, hour);
        }
        refusesParties("drop", 0);
        refusesParties("drop", 99);
    }

    private void drops() {
        e.says(37, "The HOUR (0 .. 99) by which these are most, the first of several.");
        e.is(e.told(BARE + "beach 0; rule 0 to 0 on flood ebb to 0;"), 0, "drops", 0);
        e.is(e.told(BARE + "beach 0; rule 0 to 0 on flood to 0;"), 1, "drops", 0);
        e.is(e.told(shore(3, 1, 6, 12) + "beach 1; rule 1 to 1 on flood to 0;"), 24, "drops", 0);
        // The flood takes all off the BEACH 1; what lies there as the flood begins was thrown in the HOUR ahead.
        EbbWreck last = e.told(shore(3, 12, 6, 12) + "beach 1; current 1 flood 1 ebb 0; rule 1 to 1 on flood to 5;");
        e.is(last, 35, "drops", 5);
        e.is(last, 2, "drop", 5, 35);
        e.is(last, 0, "drop", 5, 34);
        e.is(last, 2, "drop", 5, 71);
        // One CELL by ebb, two by flood: it counts how many, not which.
        e.is(e.told(WIDE + "beach 11; beach 0; beach 1; rule 11 to 11 on ebb to 0; rule 0 to 1 on flood to 0;"), 1, "drops", 0);
        String[] slow = {DriftEdges.BAY, DriftEdges.swapping(9, 6, 11) + "beach 1; rule 1 to 1 on ebb to 0;",
            DriftEdges.swapping(5, 1, 3) + "beach 7; rule 0 to 11 on slack to 0;",
            shore(12, 5, 0, 5) + "beach 4; rule 0 to 11 on flood to 0;" + steps(new int[] {-1, -1, 0, -1, 3, 0, -1, -2, 0, 0, 3, -1},
                    new int[] {-3, 3, -2, 0, -3, 3, 1, 2, -2, -2, -2, 0}),
            shore(12, 5, 0, 2) + "beach 1; rule 0 to 11 on ebb to 0;" + steps(new int[] {-1, -3, 2, 2, -3, -3, -2, 0, 0, 0, 0, 1},
                    new int[] {0, -3, -3, 0, -3, -2, 3, -2, -1, 2, 1, -1}),
            shore(12, 11, 5, 11) + "beach 2; rule 0 to 11 on flood slack ebb to 0;" + steps(new int[] {3, -3, 1, 0, -2, -3, -1, 3, -3, 0, -3, 0},
                    new int[] {-3, -1, -1, 0, -3, -2, -3, 2, 1, -1, 0, -2})};
        int[] best = {2, 14, 3, 8, 3, 27};
        for (int i = 0; i < slow.length; i++) {
            EbbWreck x = e.told(slow[i]);
            e.is(x, best[i], "drops", 0);
            int most = 0;
            int hour = -1;
            for (int h = 0; h < 100; h++) {
                int cells = Integer.bitCount(x.drop(0, h));
                hour = cells > most ? h : hour;
                most = Math.max(most, cells);
            }
            e.due("the first HOUR of most by drop()", hour, best[i]);
        }
        e.says(37, "NONE: there are never any; -2 likewise.");
        e.is(last, -1, "drops", 0);
        e.is(e.told(BARE), -1, "drops", 0);
        e.is(e.told(BARE + "beach 0; rule 0 to 0 on slack to 0; rule 1 to 2 on flood ebb to 0;"), -1, "drops", 0);
        refusesParties("drops");
    }

    private void origins() {
        e.says(39, "ORIGINS: CELLS into which something must be thrown in an HOUR (from) so that (never pushed) in another one, no less,"
                + " it is in a CELL, and has not come up ahead of that HOUR, as bits, HOURS 0 .. 400.");
        EbbWreck x = e.told(BARE + "beach 1;" + thing(1, 0));
        x.shove(0, 0, 1);
        e.is(x, 2, "origins", 0, 0, 1);
        e.is(x, 2, "origins", 0, 1, 1);
        e.is(x, 0, "origins", 0, 2, 1);
        e.is(x, 0, "origins", 0, 400, 1);
        e.is(x, 2, "origins", 399, 400, 1);
        e.is(x, 0, "origins", 398, 400, 1);
        e.is(x, 2, "origins", 400, 400, 1);
        e.is(x, 1, "origins", 0, 400, 0);
        e.is(x, 4, "origins", 400, 400, 2);
        EbbWreck on = e.told(shore(12, 1, 0, 1) + DriftEdges.currents(12, "flood 1 ebb 0"));
        e.is(on, 1 << 10 | 1 << 11, "origins", 0, 1, 11);
        e.is(on, 4095, "origins", 0, 22, 11);
        e.is(on, 4095, "origins", 0, 21, 11);
        e.is(on, 4094, "origins", 0, 20, 11);
        e.is(on, 0, "origins", 0, 1, 0);
        e.is(on, 4095, "origins", 0, 400, 11);
        e.is(on, 4095, "origins", 378, 400, 11);
        e.is(on, 4094, "origins", 379, 400, 11);
        e.says(39, "-2: there are none such.");
        long[][] bad = {{1, 0, 0}, {400, 399, 0}, {-1, 0, 0}, {0, 401, 0}, {401, 401, 0}, {-1, -1, 0}, {0, 0, -1}, {0, 0, 3}, {MIN, 0, 0},
            {0, MAX, 0}, {MAX, MAX, 0}, {0, MIN, 0}, {0, 0, MIN}, {0, 0, MAX}, {401, 400, 0}};
        for (long[] b : bad) {
            e.is(x, -2, "origins", b);
            e.is(new EbbWreck(), -2, "origins", b);
        }
        e.is(on, -2, "origins", 0, 0, 12);
        e.is(new EbbWreck(), -2, "origins", 0, 0, 0);
    }

    private void when() {
        e.says(40, "The latest HOUR in which something thrown into a CELL (from; never pushed) comes up in just that HOUR (0 .. 400)"
                + " on that CELL.");
        EbbWreck x = e.told(shore(4, 12, 6, 12) + "beach 2; current 0 flood 1 ebb 0; current 1 flood 1 ebb 0;" + thing(0, 0));
        x.shove(0, 0, 0);
        e.is(x, 0, "when", 0, 2, 2);
        e.is(x, 0, "when", 1, 1, 2);
        e.is(x, 1, "when", 0, 3, 2);
        e.is(x, 0, "when", 2, 1, 2);
        e.is(x, 399, "when", 2, 400, 2);
        // 400 is in the twelfth round: the HOUR 4 of its flood.
        e.is(x, 399, "when", 1, 400, 2);
        e.is(x, 398, "when", 0, 400, 2);
        // In 37 from 1: thrown in 36; in 38 from 0: in 36; in 37 from 0: at slack it waits, and goes on too late.
        e.is(x, 36, "when", 1, 37, 2);
        e.is(x, 36, "when", 0, 38, 2);
        // The flood's last HOUR takes it from 0 to 1; there it lies till the next.
        e.is(x, 11, "when", 0, 37, 2);
        e.says(40, "NONE: none;");
        e.is(x, -1, "when", 0, 1, 2);
        e.is(x, -1, "when", 0, 0, 2);
        e.is(x, -1, "when", 2, 0, 2);
        e.is(x, -1, "when", 3, 400, 2);
        e.is(x, -1, "when", 0, 1, 1);
        e.is(x, -1, "when", 3, 1, 3);
        e.is(x, -1, "when", 1, 13, 2);
        e.says(40, "-2: there are none such.");
        long[][] bad = {{-1, 1, 2}, {4, 1, 2}, {0, -1, 2}, {0, 401, 2}, {0, 1, -1}, {0, 1, 4}, {MIN, 1, 2}, {MAX, 1, 2}, {0, MIN, 2},
            {0, MAX, 2}, {0, 1, MIN}, {0, 1, MAX}, {4, 401, 4}};
        for (long[] b : bad) {
            e.is(x, -2, "when", b);
        }
        e.is(new EbbWreck(), -2, "when", 0, 0, 0);
    }
}
