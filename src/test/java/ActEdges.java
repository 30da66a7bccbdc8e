import java.util.Arrays;

/** Edges of clocks, acts, gales and images: Term VI, promises 49 to 58, 60 and 61. */
final class ActEdges {
    private static final String BARE = TellingEdges.BARE;
    private static final String BAY = DriftEdges.BAY;
    private static final int MAX = Integer.MAX_VALUE;
    private static final int MIN = Integer.MIN_VALUE;
    private static final int LAST_SEED = 2000000000;

    private final Edges e;

    ActEdges(Edges edges) {
        e = edges;
    }

    void all() {
        clock();
        set();
        sit();
        shove();
        undo();
        anew();
        draws();
        gale();
        drawn();
        luck();
        waits();
        rate();
        image();
        back();
        asking();
    }

    private static String shore(int cells, int flood, int slack, int ebb, int odds) {
        return "shore cells " + cells + " flood " + flood + " slack " + slack + " ebb " + ebb + " odds " + odds + ";";
    }

    private static String thing(int worth, int cell, int hour) {
        return "thing worth " + worth + " at " + cell + " from " + hour + ";";
    }

    /** Flood 0 .. 11, slack .. 17, ebb .. 29, slack .. 35; on 0 flood is party 0's, slack 1's, ebb 2's. */
    private static final String LONG = shore(3, 12, 6, 12, 0)
            + "beach 0; rule 0 to 0 on flood to 0; rule 0 to 0 on slack to 1; rule 0 to 0 on ebb to 2;";

    private void clock() {
        e.says(49, "CLOCK: the worth of a PARTY, if RULES (not currents) took the PHASE of the HOUR d HOURS (-20 .. 20) later");
        EbbWreck x = e.told(LONG + thing(10, 0, 15));
        e.is(x, 16, "comes", 0);
        e.is(x, 10, "clock", 1, 0);
        e.is(x, 0, "clock", 0, 0);
        e.is(x, 10, "clock", 0, 20);
        e.is(x, 10, "clock", 1, 19);
        e.is(x, 10, "clock", 1, 1);
        e.is(x, 10, "clock", 2, 2);
        e.is(x, 10, "clock", 2, 13);
        e.is(x, 10, "clock", 1, 14);
        e.is(x, 10, "clock", 1, -4);
        e.is(x, 10, "clock", 0, -5);
        e.is(x, 10, "clock", 0, -16);
        e.is(e.told(LONG + thing(10, 0, 19)), 10, "clock", 0, -20);
        e.is(e.told(LONG + thing(10, 0, 18)), 10, "clock", 1, -20);
        EbbWreck drifting = e.told(LONG + "current 1 flood back 1 ebb 0;" + thing(7, 1, 12));
        e.is(drifting, 37, "comes", 0);
        e.is(drifting, 7, "clock", 0, 0);
        e.is(drifting, 7, "clock", 1, -2);
        e.is(drifting, 37, "comes", 0);
        e.says(49, "(as if HOURS went back ahead of 0 likewise).");
        EbbWreck early = e.told(LONG + thing(10, 0, 0));
        int[] whose = {0, 1, 1, 1, 1, 1, 1, 2, 2, 2, 2, 2, 2, 2, 2, 2, 2, 2, 2, 1};
        for (int d = -1; d >= -20; d--) {
            for (int party = 0; party < 3; party++) {
                e.is(early, whose[-1 - d] == party ? 10 : 0, "clock", party, d);
            }
        }
        e.is(e.told(BARE), 0, "clock", 5, -20);
        // A round of 2: an even number of HOURS ahead is the same PHASE.
        EbbWreck two = e.told(BARE + "beach 0; rule 0 to 0 on ebb to 0;" + thing(3, 0, 0));
        for (int d = -20; d <= 20; d++) {
            e.is(two, d % 2 == 0 ? 3 : 0, "clock", 0, d);
        }
        e.says(49, "-2: there are none such, no SHORE.");
        long[][] bad = {{0, 21}, {0, -21}, {0, MIN}, {0, MAX}, {6, 0}, {-1, 0}, {MIN, 0}, {MAX, 0}, {6, 21}};
        for (long[] b : bad) {
            e.is(x, -2, "clock", b);
            e.is(new EbbWreck(), -2, "clock", b);
        }
        e.is(new EbbWreck(), -2, "clock", 0, 0);
    }

    private void set() {
        e.says(50, "The d (nearest to 0, then below it) by which that is most.");
        // Of the two things both are at flood by one d alone, a round of 36 aside.
        int[][] far = {{18, -18}, {19, 17}, {17, -17}, {20, 16}, {1, -1}, {35, 1}, {36, 0}};
        for (int[] f : far) {
            EbbWreck x = e.told(LONG + thing(5, 0, f[0] - 1) + thing(5, 0, f[0] + 10));
            e.is(x, f[1], "set", 0);
            e.is(x, 10, "clock", 0, f[1]);
        }
        // At slack between: flood is one HOUR ahead, ebb one behind, both his.
        String mid = shore(3, 1, 1, 1, 0) + "beach 0; rule 0 to 0 on flood ebb to 0;" + thing(5, 0, 0);
        e.is(e.told(mid), -1, "set", 0);
        e.is(e.told(BARE), 0, "set", 0);
        e.is(e.told(BARE), 0, "set", 5);
        e.is(e.told(LONG + thing(0, 0, 20)), 0, "set", 0);
        e.is(e.told(LONG + thing(1, 0, 17)), 0, "set", 2);
        e.is(e.told(LONG + thing(1, 0, 17)), -7, "set", 0);
        e.is(e.told(LONG + thing(1, 0, 34)), 1, "set", 0);
        e.says(50, "-1,000: there is none such, no SHORE.");
        int[] bad = {-1, 6, MIN, MAX};
        for (int party : bad) {
            e.is(e.told(BARE), -1000, "set", party);
        }
        for (int party = 0; party <= 5; party++) {
            e.is(new EbbWreck(), -1000, "set", party);
        }
    }

    /** A SHORE, some acts, images 0 and 1, a rest of a TAPE. */
    private void some(EbbWreck x) {
        e.tell(x, BAY);
        x.sit(2, 4);
        x.image(1);
        x.shove(0, 0, 1);
        x.shove(3, 400, 0);
        x.sit(0, 3);
        x.image(0);
        x.shove(1, 4, 0);
        Edges.feed(x, BARE + "beach 1;");
    }

    private void forty(EbbWreck x) {
        e.tell(x, BAY);
        for (int i = 0; i < 20; i++) {
            x.sit(0, i % 6);
            x.shove(0, 2 * i, i % 2);
        }
    }

    private void sit() {
        e.says(51, "A SITTER sits on a CELL from now on: where he did.");
        EbbWreck x = e.told(BAY);
        e.is(x, 5, "sit", 0, 0);
        e.is(x, 0, "sit", 0, 5);
        e.is(x, 5, "sit", 0, 5);
        e.is(x, 5, "sitter", 0);
        e.is(x, 3, "count", 9);
        e.is(x, 0, "sit", 2, 3);
        e.is(x, 3, "sitter", 2);
        e.is(x, 5, "sitter", 1);
        e.says(51, "-5: there were 40 acts;");
        EbbWreck y = e.told(BARE + "sitter at 1;");
        for (int i = 0; i < 40; i++) {
            e.is(y, i == 0 ? 1 : (i - 1) % 3, "sit", 0, i % 3);
        }
        e.is(y, 40, "count", 9);
        e.is(y, -5, "sit", 0, 0);
        e.is(y, 0, "sitter", 0);
        e.is(y, -5, "sit", 0, 2);
        e.is(y, 0, "sitter", 0);
        e.is(y, 40, "count", 9);
        e.is(y, 39, "undo");
        e.is(y, 2, "sit", 0, 1);
        e.is(y, -5, "sit", 0, 1);
        e.leaves(this::forty, -5, "sit", 0, 0);
        e.leaves(this::forty, -5, "sit", 2, 5);
        e.says(51, "-2: there are none such.");
        long[][] bad = {{-1, 0}, {3, 0}, {MIN, 0}, {MAX, 0}, {0, -1}, {0, 6}, {0, 12}, {0, MIN}, {0, MAX}, {3, 6}};
        for (long[] b : bad) {
            e.leaves(this::some, -2, "sit", b);
            e.leaves(this::forty, -2, "sit", b);
        }
        e.is(e.told(BARE), -2, "sit", 0, 0);
        e.is(new EbbWreck(), -2, "sit", 0, 0);
    }

    private void shove() {
        e.says(52, "A THING is pushed in an HOUR (0 .. 400), back (1) or on (0): how often it is.");
        EbbWreck x = e.told(BARE + thing(1, 1, 0) + thing(1, 1, 0));
        e.is(x, 1, "shove", 0, 0, 0);
        e.is(x, 2, "at", 0, 1);
        e.is(x, 2, "shove", 0, 400, 1);
        e.is(x, 3, "shove", 0, 399, 1);
        e.is(x, 1, "at", 0, 400);
        e.is(x, 1, "shove", 1, 0, 1);
        e.is(x, 0, "at", 1, 1);
        e.is(x, 4, "shove", 0, 200, 0);
        e.is(x, 5, "count", 9);
        e.says(52, "-5: it was in that HOUR, there were 40 acts;");
        long[][] again = {{0, 0, 1}, {0, 0, 0}, {3, 400, 0}, {3, 400, 1}, {1, 4, 0}};
        for (long[] b : again) {
            e.leaves(this::some, -5, "shove", b);
        }
        e.is(x, -5, "shove", 0, 0, 0);
        e.is(x, -5, "shove", 0, 0, 1);
        e.is(x, -5, "shove", 0, 400, 0);
        e.is(x, 5, "count", 9);
        for (int i = 1; i <= 35; i++) {
            e.is(x, i + 1, "shove", 1, i, i % 2);
        }
        e.is(x, 40, "count", 9);
        e.is(x, -5, "shove", 1, 36, 0);
        e.is(x, -5, "shove", 0, 36, 0);
        e.is(x, 40, "count", 9);
        e.is(x, 39, "undo");
        e.is(x, 36, "shove", 1, 36, 0);
        long[][] full = {{0, 39, 0}, {0, 0, 0}, {1, 5, 1}, {4, 400, 0}};
        for (long[] b : full) {
            e.leaves(this::forty, -5, "shove", b);
        }
        e.says(52, "-2: there are none such.");
        long[][] bad = {{-1, 0, 0}, {5, 0, 0}, {8, 0, 0}, {MIN, 0, 0}, {MAX, 0, 0}, {0, -1, 0}, {0, 401, 0}, {0, MIN, 0}, {0, MAX, 0}, {0, 1, -1},
            {0, 1, 2}, {0, 1, MIN}, {0, 1, MAX}, {0, 0, 2}, {5, 401, 2}};
        for (long[] b : bad) {
            e.leaves(this::some, -2, "shove", b);
            e.leaves(this::forty, -2, "shove", b);
        }
        e.is(e.told(BARE), -2, "shove", 0, 0, 0);
        e.is(new EbbWreck(), -2, "shove", 0, 0, 0);
    }

    private void undo() {
        e.says(53, "The latest act is taken back: how many there are.");
        EbbWreck x = e.told(BAY);
        x.sit(0, 2);
        x.sit(0, 4);
        x.shove(0, 0, 1);
        x.shove(0, 1, 1);
        e.is(x, 3, "undo");
        e.is(x, 3, "comes", 0);
        e.is(x, 2, "undo");
        e.is(x, 2, "comes", 0);
        e.is(x, 4, "sitter", 0);
        e.is(x, 1, "undo");
        e.is(x, 2, "sitter", 0);
        e.is(x, 0, "undo");
        e.is(x, 5, "sitter", 0);
        // A push that was taken back may be done again.
        e.is(x, 1, "shove", 0, 0, 0);
        EbbWreck all = new EbbWreck();
        forty(all);
        for (int i = 39; i >= 0; i--) {
            e.is(all, i, "undo");
        }
        e.is(all, 5, "sitter", 0);
        e.is(all, 2, "comes", 0);
        e.says(53, "-5: there is none;");
        e.is(all, -5, "undo");
        e.leaves(y -> e.tell(y, BAY), -5, "undo");
        e.leaves(y -> {
            some(y);
            y.anew();
        }, -5, "undo");
        e.leaves(y -> {
            some(y);
            y.end(0);
            Edges.feed(y, BARE);
            y.shore();
        }, -5, "undo");
        e.says(53, "-2: there is no SHORE.");
        e.leaves(y -> { }, -2, "undo");
        e.leaves(y -> {
            some(y);
            y.end(0);
            y.shore();
        }, -2, "undo");
    }

    private void anew() {
        e.says(54, "All are: how many there were.");
        EbbWreck x = new EbbWreck();
        forty(x);
        e.is(x, 40, "anew");
        e.is(x, 0, "count", 9);
        e.is(x, 5, "sitter", 0);
        e.is(x, 2, "comes", 0);
        e.is(x, 0, "anew");
        e.is(x, 5, "sit", 0, 1);
        e.is(x, 1, "anew");
        e.is(x, 5, "sitter", 0);
        e.leaves(y -> e.tell(y, BAY), 0, "anew");
        e.says(54, "-2 likewise.");
        e.leaves(y -> { }, -2, "anew");
        e.leaves(y -> {
            some(y);
            y.end(0);
            y.shore();
        }, -2, "anew");
    }

    private static int draw(long seed, int number) {
        java.math.BigInteger x = java.math.BigInteger.valueOf(seed);
        java.math.BigInteger factor = java.math.BigInteger.valueOf(1103515245);
        java.math.BigInteger modulo = java.math.BigInteger.valueOf(2147483648L);
        for (int i = 0; i <= number; i++) {
            x = x.multiply(factor).add(java.math.BigInteger.valueOf(12345)).mod(modulo);
        }
        return x.divide(java.math.BigInteger.valueOf(65536)).intValue() % 100;
    }

    /** One draw decides: pushed on it is on 2 in HOUR 1, else it lies on 1; both are BEACHES. */
    private static String once(int odds) {
        return shore(3, 1, 0, 1, odds) + "beach 1; beach 2; rule 2 to 2 on ebb to 3; rule 1 to 1 on ebb to 4;" + thing(1, 1, 0);
    }

    private void draws() {
        e.says("VI", "DRAWS: x becomes (1103515245 x + 12345) modulo 2,147,483,648 (at first it is the seed); a draw: x / 65536, cut, modulo 100.");
        // By hand: 12,345 is 0; 1,103,527,590 by 65,536 is 16,838, so 38; 59,559,187 is 908, so 8.
        int[][] hand = {{0, 0}, {1, 38}, {2, 8}};
        for (int[] h : hand) {
            e.due("the draw of seed " + h[0], draw(h[0], 0), h[1]);
            e.is(e.told(once(h[1])), 1, "drawn", h[0], 0, 1);
            e.is(e.told(once(h[1] + 1)), 2, "drawn", h[0], 0, 1);
        }
        // By 47,902 and 42,627 the lower half of x is 65,535, and 0: it is cut, not rounded.
        long[] seeds = {3, 17, 12345, 65535, 65536, 1999999999, LAST_SEED, 47902, 113438, 178974, 42627, 108163, 173699, 1999944478,
            1999939203};
        for (long seed : seeds) {
            int d = draw(seed, 0);
            e.is(e.told(once(d)), 1, "drawn", seed, 0, 1);
            e.is(e.told(once(d + 1)), 2, "drawn", seed, 0, 1);
        }
        long high = 0;
        while (draw(high, 0) != 99) {
            high++;
        }
        e.is(e.told(once(99)), 1, "drawn", high, 0, 1);
        e.is(e.told(once(100)), 2, "drawn", high, 0, 1);
    }

    private void gale() {
        e.says("VI", "GALE: in each HOUR in which the THING is afloat, from its first on, a draw: below odds it is pushed on, besides all"
                + " pushes done, ahead of these (to HOUR 400).");
        // It lies till it is pushed on eleven times; the draws begin with its first HOUR.
        int[] firsts = {0, 1, 99};
        for (int first : firsts) {
            EbbWreck x = e.told(shore(12, 1, 0, 1, 37) + "beach 11;" + thing(1, 0, first));
            for (int seed = 0; seed < 20; seed++) {
                int on = 0;
                int hour = first;
                for (int i = 0; on < 11; i++) {
                    on += draw(seed, i) < 37 ? 1 : 0;
                    hour++;
                }
                e.is(x, hour, "drawn", seed, 0, 0);
            }
        }
        EbbWreck never = e.told(shore(12, 1, 0, 1, 0) + "beach 11;" + thing(1, 10, 0));
        e.is(never, -1, "drawn", 0, 0, 0);
        never.shove(0, 399, 0);
        e.is(never, 400, "drawn", 0, 0, 0);
        never.undo();
        never.shove(0, 400, 0);
        e.is(never, -1, "drawn", 0, 0, 0);
        // The gale takes it one on, the currents one back: it lies on 1, and a push takes it to the BEACH.
        String held = shore(5, 1, 0, 1, 100) + DriftEdges.currents(5, "flood back 1 ebb back 1") + "beach 2;" + thing(1, 1, 0);
        EbbWreck x = e.told(held);
        e.is(x, -1, "drawn", 5, 0, 0);
        x.shove(0, 399, 0);
        e.is(x, 400, "drawn", 5, 0, 0);
        x.undo();
        x.shove(0, 400, 0);
        e.is(x, -1, "drawn", 5, 0, 0);
        // On the last CELL the gale finds no CELL on; a push back is done behind it, and takes it off.
        EbbWreck end = e.told(shore(3, 1, 0, 1, 100) + "beach 2;" + thing(1, 2, 0) + thing(1, 1, 0));
        e.is(end, 1, "drawn", 0, 0, 0);
        end.shove(0, 0, 1);
        e.is(end, 2, "drawn", 0, 0, 0);
        // Back behind the gale: from 1 to 2, and to 1 again.
        end.shove(1, 0, 1);
        e.is(end, 2, "drawn", 0, 1, 0);
        // Back ahead of the gale it would stay in 0 and be in 1 then; behind it, it is in 0.
        EbbWreck first = e.told(shore(3, 1, 0, 1, 100) + "beach 1;" + thing(1, 0, 0));
        first.shove(0, 0, 1);
        e.is(first, 2, "drawn", 0, 0, 0);
    }

    private void drawn() {
        e.says(55, "GALE drawn (VI) from a seed (0 .. 2,000,000,000) of a THING, what 0: the HOUR in which it comes up, 1: on which BEACH,"
                + " 2: WHOSE.");
        EbbWreck x = e.told(once(100) + thing(1, 1, 98) + thing(1, 1, 99));
        long[] seeds = {0, 1, LAST_SEED};
        for (long seed : seeds) {
            e.is(x, 1, "drawn", seed, 0, 0);
            e.is(x, 2, "drawn", seed, 0, 1);
            e.is(x, 3, "drawn", seed, 0, 2);
            e.is(x, 99, "drawn", seed, 1, 0);
            e.is(x, 3, "drawn", seed, 1, 2);
        }
        e.says(55, "NONE: it does not, nobody's;");
        e.is(x, 100, "drawn", 0, 2, 0);
        e.is(x, 2, "drawn", 0, 2, 1);
        e.is(x, -1, "drawn", 0, 2, 2);
        EbbWreck still = e.told(shore(3, 1, 0, 1, 0) + "beach 2; rule 0 to 2 on flood slack ebb to 0;" + thing(1, 1, 0));
        for (int what = 0; what < 3; what++) {
            e.is(still, -1, "drawn", LAST_SEED, 0, what);
        }
        e.says(55, "-2: there are none such.");
        long[][] bad = {{-1, 0, 0}, {LAST_SEED + 1, 0, 0}, {MIN, 0, 0}, {MAX, 0, 0}, {0, -1, 0}, {0, 3, 0}, {0, 8, 0}, {0, MIN, 0}, {0, MAX, 0},
            {0, 0, -1}, {0, 0, 3}, {0, 0, MIN}, {0, 0, MAX}, {-1, 3, 3}};
        for (long[] b : bad) {
            e.is(x, -2, "drawn", b);
        }
        e.is(e.told(BARE), -2, "drawn", 0, 0, 0);
        e.is(new EbbWreck(), -2, "drawn", 0, 0, 0);
    }

    private void luck() {
        e.says(56, "Of n (1 .. 20) such from seeds, the seed and 1, .., in how many it is a PARTY's.");
        EbbWreck x = e.told(once(38));
        long[] seeds = {0, 1, 2, 1999999990, LAST_SEED};
        for (long seed : seeds) {
            int on = 0;
            for (int n = 1; n <= 20; n++) {
                on += draw(seed + n - 1, 0) < 38 ? 1 : 0;
                e.is(x, on, "luck", seed, n, 0, 3);
                e.is(x, n - on, "luck", seed, n, 0, 4);
                e.is(x, 0, "luck", seed, n, 0, 5);
            }
        }
        EbbWreck ever = e.told(once(100));
        e.is(ever, 20, "luck", LAST_SEED, 20, 0, 3);
        e.is(ever, 1, "luck", 0, 1, 0, 3);
        e.is(ever, 0, "luck", 0, 20, 0, 0);
        EbbWreck late = e.told(shore(3, 1, 0, 1, 0) + "beach 2; rule 0 to 2 on flood slack ebb to 0;" + thing(1, 1, 0));
        e.is(late, 0, "luck", 0, 20, 0, 0);
        late.shove(0, 399, 0);
        e.is(late, 20, "luck", 0, 20, 0, 0);
        e.is(late, 2, "waits", 0, 20, 0);
        late.undo();
        late.shove(0, 400, 0);
        e.is(late, 0, "luck", 0, 20, 0, 0);
        e.is(late, -1, "waits", 0, 20, 0);
        e.says(56, "-2: there are none such.");
        long[][] bad = {{-1, 1, 0, 0}, {LAST_SEED + 1, 1, 0, 0}, {MIN, 1, 0, 0}, {MAX, 1, 0, 0}, {0, 0, 0, 0}, {0, 21, 0, 0}, {0, -1, 0, 0},
            {0, MIN, 0, 0}, {0, MAX, 0, 0}, {0, 1, -1, 0}, {0, 1, 1, 0}, {0, 1, MIN, 0}, {0, 1, MAX, 0}, {0, 1, 0, -1}, {0, 1, 0, 6},
            {0, 1, 0, MIN}, {0, 1, 0, MAX}};
        for (long[] b : bad) {
            e.is(x, -2, "luck", b);
        }
        e.is(new EbbWreck(), -2, "luck", 0, 1, 0, 0);
    }

    private void waits() {
        e.says(57, "WAIT: of n (1 .. 20) such the BEACH on which it comes up most often, the first of several.");
        int evens = 0;
        EbbWreck x = e.told(once(50));
        for (int seed = 0; seed < 8; seed++) {
            int on = 0;
            for (int n = 1; n <= 20; n++) {
                on += draw(seed + n - 1, 0) < 50 ? 1 : 0;
                evens += 2 * on == n ? 1 : 0;
                e.is(x, 2 * on > n ? 2 : 1, "waits", seed, n, 0);
            }
        }
        e.due("some were as often on both", evens > 0 ? 1 : 0, 1);
        e.is(e.told(once(100)), 2, "waits", LAST_SEED, 20, 0);
        e.is(e.told(once(0)), 1, "waits", LAST_SEED, 20, 0);
        e.is(e.told(shore(3, 1, 0, 1, 0) + "beach 0;" + thing(1, 0, 0)), 0, "waits", 0, 1, 0);
        e.is(e.told(shore(12, 1, 0, 1, 100) + "beach 11;" + thing(1, 0, 99)), 11, "waits", 0, 20, 0);
        e.says(57, "NONE: never;");
        e.is(e.told(shore(3, 1, 0, 1, 0) + "beach 2;" + thing(1, 1, 0)), -1, "waits", 0, 20, 0);
        e.is(e.told(shore(3, 1, 0, 1, 100) + thing(1, 1, 0)), -1, "waits", 0, 1, 0);
        // Of two draws one takes it to the BEACH: that is more often than any other.
        EbbWreck once = e.told(shore(3, 1, 0, 12, 10) + "beach 2; current 1 flood 0 ebb back 1;" + thing(1, 1, 0));
        e.is(once, 2, "waits", 0, 2, 0);
        e.says(57, "-2: there are none such.");
        long[][] bad = {{-1, 1, 0}, {LAST_SEED + 1, 1, 0}, {MIN, 1, 0}, {MAX, 1, 0}, {0, 0, 0}, {0, 21, 0}, {0, -1, 0}, {0, MIN, 0}, {0, MAX, 0},
            {0, 1, -1}, {0, 1, 1}, {0, 1, MIN}, {0, 1, MAX}};
        for (long[] b : bad) {
            e.is(x, -2, "waits", b);
        }
        e.is(new EbbWreck(), -2, "waits", 0, 1, 0);
    }

    private void rate() {
        e.says(58, "The worth of a THING is n (0 .. 999) from now on: what it was.");
        EbbWreck x = e.told(TellingEdges.FULL);
        e.is(x, 999, "rate", 7, 0);
        e.is(x, 0, "rate", 7, 999);
        e.is(x, 999, "rate", 7, 1);
        e.is(x, 1, "thing", 7, 0);
        e.is(x, 999, "thing", 6, 0);
        e.is(x, 7 * 999 + 1, "has", 5);
        e.is(x, 0, "count", 9);
        e.is(x, -5, "undo");
        e.says(58, "-5: there were acts;");
        e.leaves(this::some, -5, "rate", 0, 0);
        e.leaves(this::some, -5, "rate", 4, 999);
        e.leaves(this::forty, -5, "rate", 0, 1);
        x.sit(0, 0);
        e.is(x, -5, "rate", 7, 5);
        e.is(x, 1, "thing", 7, 0);
        x.undo();
        e.is(x, 1, "rate", 7, 5);
        x.shove(7, 400, 0);
        e.is(x, -5, "rate", 7, 6);
        x.anew();
        e.is(x, 5, "rate", 7, 6);
        e.says(58, "-2: there are none such.");
        long[][] bad = {{-1, 0}, {5, 0}, {8, 0}, {MIN, 0}, {MAX, 0}, {0, -1}, {0, 1000}, {0, MIN}, {0, MAX}, {5, 1000}};
        for (long[] b : bad) {
            e.leaves(this::some, -2, "rate", b);
            e.leaves(y -> e.tell(y, BAY), -2, "rate", b);
        }
        e.is(x, -2, "rate", 8, 0);
        e.is(new EbbWreck(), -2, "rate", 0, 0);
    }

    private void image() {
        e.says(60, "IMAGE k (0 .. 2) keeps the SHORE, and acts: 0.");
        EbbWreck x = e.told(BAY);
        for (int k = 0; k < 3; k++) {
            x.shove(0, k, 1);
            e.is(x, 0, "image", k);
        }
        x.anew();
        e.tell(x, BARE);
        for (int k = 2; k >= 0; k--) {
            e.is(x, 0, "back", k);
            e.is(x, k + 1, "count", 9);
            e.is(x, 6, "count", 0);
            e.is(x, k + 2, "shove", 0, 100, 0);
        }
        // In place of what it had.
        e.is(x, 0, "image", 2);
        x.anew();
        e.is(x, 0, "back", 2);
        e.is(x, 2, "count", 9);
        // What is done in place of the acts that it keeps is nothing to it.
        x.anew();
        x.sit(1, 2);
        x.shove(3, 7, 0);
        x.shove(1, 4, 1);
        e.is(x, 0, "back", 2);
        e.is(x, 3, "comes", 0);
        e.is(x, 5, "sitter", 1);
        e.is(x, 1, "undo");
        e.is(x, 3, "comes", 0);
        e.is(x, 0, "undo");
        e.is(x, 2, "comes", 0);
        e.is(x, 0, "back", 1);
        e.is(x, 2, "count", 9);
        e.is(x, -5, "shove", 0, 1, 0);
        e.is(new EbbWreck(), 0, "image", 0);
        e.is(new EbbWreck(), 0, "image", 2);
        e.says(60, "-2: no such k.");
        int[] bad = {-1, 3, MIN, MAX};
        for (int k : bad) {
            e.leaves(this::some, -2, "image", k);
            e.leaves(y -> { }, -2, "image", k);
        }
    }

    private void back() {
        e.says(61, "It is as IMAGE k has it: 0.");
        EbbWreck x = e.told(BAY);
        x.rate(0, 1);
        x.sit(0, 1);
        x.shove(0, 0, 1);
        e.is(x, 0, "image", 0);
        x.undo();
        x.undo();
        x.rate(0, 2);
        e.is(x, 0, "back", 0);
        e.is(x, 1, "thing", 0, 0);
        e.is(x, 1, "sitter", 0);
        e.is(x, 3, "comes", 0);
        e.is(x, 2, "count", 9);
        e.is(x, -5, "shove", 0, 0, 0);
        e.is(x, 1, "undo");
        e.is(x, 2, "comes", 0);
        e.is(x, 0, "undo");
        e.is(x, 5, "sitter", 0);
        // An IMAGE stays as it was, whatever is done behind it; TAPE, SLOTS and FAULT are none of it.
        Edges.feed(x, "%");
        x.shore();
        x.row(3, 3, 3);
        e.is(x, 0, "back", 0);
        e.is(x, 2, "count", 9);
        e.is(x, 1, "count", 11);
        e.is(x, 1, "count", 12);
        e.is(x, 1, "fault", 0);
        // Forty acts, too.
        EbbWreck full = new EbbWreck();
        forty(full);
        full.image(2);
        full.anew();
        e.is(full, 0, "back", 2);
        e.is(full, 40, "count", 9);
        e.is(full, -5, "sit", 0, 0);
        e.is(full, 40, "anew");
        e.is(full, 5, "sitter", 0);
        e.is(full, 2, "comes", 0);
        // Kept without a SHORE it is without one again.
        EbbWreck none = new EbbWreck();
        none.image(1);
        e.tell(none, BAY);
        e.is(none, 0, "back", 1);
        e.is(none, 0, "count", 0);
        e.is(none, -2, "undo");
        e.says(61, "-2: no such k;");
        int[] bad = {-1, 3, MIN, MAX};
        for (int k : bad) {
            e.leaves(this::some, -2, "back", k);
            e.leaves(y -> { }, -2, "back", k);
        }
        e.says(61, "-6: it has nothing.");
        e.leaves(this::some, -6, "back", 2);
        for (int k = 0; k < 3; k++) {
            e.leaves(y -> { }, -6, "back", k);
            e.leaves(y -> e.tell(y, BAY), -6, "back", k);
        }
    }

    /** What only asks changes nothing, whether it is answered or refused. */
    private void asking() {
        String[] asked = {"fault 1", "cell 1 0", "thing 0 0", "rule 0 0", "sitter 0", "phase 7", "next 7 0", "drifts 3 5", "at 0 9", "comes 0",
            "beach 0", "whose 0", "has 1", "line 5", "argued", "gaps 1", "idle", "without 0 1", "strike 2", "pushes 0 2", "push 0 2 0",
            "way 0 2 0", "soonest 0 2", "ward 0 1", "all 0", "richest", "meet 0 1", "lasts 9", "slacks 9", "eddy 1", "stuck", "drop 1 3",
            "drops 1", "share 0", "origins 0 9 5", "when 1 9 0", "fits 0", "fit 0 0", "ask 0", "leaves 0", "seat 0 5", "seats 0", "rests",
            "rest 0", "clock 1 3", "set 1", "drawn 7 0 0", "luck 7 20 0 1", "waits 7 20 0", "count 9"};
        Edges.Past[] pasts = {this::some, y -> { }, y -> {
            some(y);
            Edges.writeAll(y, 0, 1, 0, 0, 1, 1, 2, 0, 0, 2);
        }};
        for (Edges.Past past : pasts) {
            for (String call : asked) {
                String[] words = call.split(" ");
                long[] args = Arrays.stream(words).skip(1).mapToLong(Long::parseLong).toArray();
                EbbWreck other = new EbbWreck();
                past.on(other);
                e.leaves(past, Edges.call(other, words[0], args), words[0], args);
            }
        }
    }
}
