import java.util.Arrays;

/** A shore told as a text: what drifts where, comes up when, and whose it is. */
public final class EbbWreck {
    public static final int NONE = -1;

    private static final int UNKNOWN = -2;
    private static final int BELOW_ZERO = -3;
    private static final int FAULTY = -4;
    private static final int REFUSED = -5;
    private static final int NOTHING = -6;
    private static final int BEYOND = -7;
    private static final int UNLIKE = -8;
    private static final int NO_STEPS = -1000;

    private static final int FLOOD = 0;
    private static final int SLACK = 1;
    private static final int EBB = 2;
    private static final int PHASES = 3;
    private static final int MOST_RUN = 12;
    private static final int MOST_SLACK = 6;
    private static final int MOST_ROUND_HOURS = 2 * (MOST_RUN + MOST_SLACK);

    private static final int LEAST_CELLS = 3;
    private static final int MOST_CELLS = 12;
    private static final int MOST_THINGS = 8;
    private static final int MOST_RULES = 6;
    private static final int MOST_SITTERS = 3;
    private static final int PARTIES = 6;
    private static final int MOST_WORTH = 999;
    private static final int MOST_STEPS = 3;
    private static final int MOST_ACTS = 40;
    private static final int IMAGES = 3;
    private static final int LAST_HOUR = 400;
    private static final int LAST_PUSHED_HOUR = 100;
    private static final int LAST_THROW = 99;
    private static final int LAST_TIDE_HOUR = 2000000000;
    private static final int LAST_NEXT_HOUR = 1000000000;
    private static final int LAST_SEED = 2000000000;
    private static final int MOST_DRAWN = 20;
    private static final int FARTHEST_CLOCK = 20;
    private static final int CALM = -1;

    private static final int TAPE_BYTES = 1200;
    private static final int FED_BYTES = 20;
    private static final int SLOT_COUNT = 4;
    private static final int SLOT_NUMBERS = 60;
    private static final int WIDTHS = 4;

    private final byte[] tape;
    private int tapeSize;
    private int faultKind;
    private int faultPlace;
    private final Coast coast;
    private final Coast draft;
    private final Coast[] images;
    private final boolean[] kept;
    private final Reader reader;
    private final Drift drift;
    private final Pushing pushing;
    private final Throwing throwing;
    private final Seating seating;
    private final Slots slots;
    private final Floats floats;

    public EbbWreck() {
        tape = new byte[TAPE_BYTES];
        tapeSize = 0;
        faultKind = 0;
        faultPlace = NONE;
        coast = new Coast();
        draft = new Coast();
        images = new Coast[IMAGES];
        for (int k = 0; k < IMAGES; k++) {
            images[k] = new Coast();
        }
        kept = new boolean[IMAGES];
        reader = new Reader(tape, draft);
        drift = new Drift(coast);
        pushing = new Pushing(coast);
        throwing = new Throwing(coast);
        seating = new Seating(coast, drift);
        slots = new Slots();
        floats = new Floats(coast, slots);
    }

    // The tape and the telling.

    public int feed(int a, int b, int c, int d, int e) {
        if (tapeSize + FED_BYTES > TAPE_BYTES) {
            return NONE;
        }
        putNumber(a);
        putNumber(b);
        putNumber(c);
        putNumber(d);
        putNumber(e);
        return tapeSize;
    }

    private void putNumber(int number) {
        for (int shift = 24; shift >= 0; shift -= 8) {
            if (tapeSize < TAPE_BYTES) {
                tape[tapeSize] = (byte) (number >> shift);
                tapeSize++;
            }
        }
    }

    public int end(int n) {
        if (n < 0 || n > tapeSize) {
            return NONE;
        }
        tapeSize = n;
        return n;
    }

    public int shore() {
        reader.read(tapeSize);
        faultKind = reader.faultKind;
        faultPlace = reader.faultPlace;
        if (faultKind != 0) {
            return FAULTY;
        }
        coast.copyFrom(draft);
        tapeSize = 0;
        drift.settleAll();
        return coast.lines;
    }

    public int fault(int what) {
        if (what == 0) {
            return faultKind;
        }
        return what == 1 ? faultPlace : NONE;
    }

    // What the shore tells.

    public int cell(int cell, int what) {
        if (!coast.hasCell(cell)) {
            return NO_STEPS;
        }
        switch (what) {
            case 0:
                return coast.floodSteps[cell];
            case 1:
                return coast.ebbSteps[cell];
            case 2:
                return coast.isBeach(cell) ? 1 : 0;
            default:
                return NO_STEPS;
        }
    }

    public int thing(int thing, int what) {
        if (!coast.hasThing(thing)) {
            return UNKNOWN;
        }
        switch (what) {
            case 0:
                return coast.worths[thing];
            case 1:
                return coast.startCells[thing];
            case 2:
                return coast.startHours[thing];
            default:
                return UNKNOWN;
        }
    }

    public int rule(int rule, int what) {
        RuleBook rules = coast.rules;
        if (!rules.hasRule(rule)) {
            return UNKNOWN;
        }
        switch (what) {
            case 0:
                return rules.firstCells[rule];
            case 1:
                return rules.lastCells[rule];
            case 2:
                return rules.phaseBits[rule];
            case 3:
                return rules.parties[rule];
            default:
                return UNKNOWN;
        }
    }

    public int sitter(int sitter) {
        return coast.hasSitter(sitter) ? coast.seatCells[sitter] : UNKNOWN;
    }

    public int count(int what) {
        switch (what) {
            case 0:
                return coast.cells;
            case 1:
                return coast.tide.flood;
            case 2:
                return coast.tide.slack;
            case 3:
                return coast.tide.ebb;
            case 4:
                return coast.odds;
            case 5:
                return Integer.bitCount(coast.beachBits);
            case 6:
                return coast.things;
            case 7:
                return coast.rules.size;
            case 8:
                return coast.sitters;
            case 9:
                return coast.acts.size;
            case 10:
                return coast.lines;
            case 11:
                return tapeSize;
            case 12:
                return slots.filled();
            default:
                return NONE;
        }
    }

    // The tide.

    public int phase(int hour) {
        return isTideHour(hour) ? coast.tide.phaseOf(hour) : UNKNOWN;
    }

    public int next(int hour, int phase) {
        if (!coast.isTold() || !isWithin(hour, LAST_NEXT_HOUR) || !isPhase(phase)) {
            return UNKNOWN;
        }
        return coast.tide.firstOf(hour, phase);
    }

    public int lasts(int hour) {
        return isTideHour(hour) ? coast.tide.hoursLeft(hour) : UNKNOWN;
    }

    public int slacks(int hour) {
        return isTideHour(hour) ? coast.tide.slackHoursAhead(hour) : UNKNOWN;
    }

    public int drifts(int cell, int hour) {
        if (!coast.hasCell(cell) || !isTideHour(hour)) {
            return UNKNOWN;
        }
        return coast.drifted(cell, hour);
    }

    private boolean isTideHour(int hour) {
        return coast.isTold() && isWithin(hour, LAST_TIDE_HOUR);
    }

    private static boolean isWithin(int number, int last) {
        return number >= 0 && number <= last;
    }

    private static boolean isPhase(int phase) {
        return phase >= 0 && phase < PHASES;
    }

    private boolean isAskedParty(int party) {
        return coast.isTold() && party >= 0 && party < PARTIES;
    }

    // Where things are, come up, and whose they are.

    public int at(int thing, int hour) {
        if (!coast.hasThing(thing) || !isWithin(hour, LAST_HOUR)) {
            return UNKNOWN;
        }
        return drift.placeOf(thing, hour);
    }

    public int comes(int thing) {
        return coast.hasThing(thing) ? drift.upHours[thing] : UNKNOWN;
    }

    public int beach(int thing) {
        return coast.hasThing(thing) ? drift.upCells[thing] : UNKNOWN;
    }

    public int whose(int thing) {
        return coast.hasThing(thing) ? drift.ownerOf(thing, 0, NONE) : UNKNOWN;
    }

    public int has(int party) {
        return isAskedParty(party) ? drift.worthOf(party, 0, NONE) : UNKNOWN;
    }

    public int line(int cell) {
        return coast.hasCell(cell) ? drift.thingsUpOn(cell) : UNKNOWN;
    }

    public int richest() {
        if (!coast.isTold()) {
            return UNKNOWN;
        }
        int best = 0;
        int most = drift.worthOf(0, 0, NONE);
        for (int party = 1; party < PARTIES; party++) {
            int worth = drift.worthOf(party, 0, NONE);
            if (worth > most) {
                most = worth;
                best = party;
            }
        }
        return best;
    }

    public int meet(int thing, int other) {
        if (!coast.hasThing(thing) || !coast.hasThing(other) || thing == other) {
            return UNKNOWN;
        }
        return drift.firstMeeting(thing, other);
    }

    // What the rules say.

    public int argued() {
        return coast.isTold() ? drift.arguedThings() : UNKNOWN;
    }

    public int gaps(int phase) {
        if (!coast.isTold() || !isPhase(phase)) {
            return UNKNOWN;
        }
        int bits = 0;
        for (int cell = 0; cell < coast.cells; cell++) {
            if (coast.isBeach(cell) && coast.rules.decider(cell, phase, NONE) == NONE) {
                bits |= 1 << cell;
            }
        }
        return bits;
    }

    public int idle() {
        if (!coast.isTold()) {
            return UNKNOWN;
        }
        int idle = (1 << coast.rules.size) - 1;
        for (int cell = 0; cell < coast.cells; cell++) {
            for (int phase = 0; phase < PHASES && coast.isBeach(cell); phase++) {
                int rule = coast.rules.decider(cell, phase, NONE);
                if (rule != NONE) {
                    idle &= ~(1 << rule);
                }
            }
        }
        return idle;
    }

    public int without(int rule, int party) {
        if (!coast.rules.hasRule(rule) || !isAskedParty(party)) {
            return UNKNOWN;
        }
        return drift.worthOf(party, 0, rule);
    }

    public int strike(int party) {
        if (!isAskedParty(party)) {
            return UNKNOWN;
        }
        int best = NONE;
        int most = drift.worthOf(party, 0, NONE);
        for (int rule = 0; rule < coast.rules.size; rule++) {
            int worth = drift.worthOf(party, 0, rule);
            if (worth > most) {
                most = worth;
                best = rule;
            }
        }
        return best;
    }

    public int clock(int party, int d) {
        if (!isAskedParty(party) || d < -FARTHEST_CLOCK || d > FARTHEST_CLOCK) {
            return UNKNOWN;
        }
        return drift.worthOf(party, d, NONE);
    }

    public int set(int party) {
        if (!isAskedParty(party)) {
            return NO_STEPS;
        }
        int best = 0;
        int most = drift.worthOf(party, 0, NONE);
        for (int far = 1; far <= FARTHEST_CLOCK; far++) {
            int early = drift.worthOf(party, -far, NONE);
            if (early > most) {
                most = early;
                best = -far;
            }
            int late = drift.worthOf(party, far, NONE);
            if (late > most) {
                most = late;
                best = far;
            }
        }
        return best;
    }

    // Pushes by which a thing is somebody's.

    private boolean isWish(int thing, int party) {
        return coast.hasThing(thing) && isAskedParty(party);
    }

    public int pushes(int thing, int party) {
        return isWish(thing, party) ? pushing.fewest(thing, party, false) : UNKNOWN;
    }

    public int push(int thing, int party, int i) {
        if (!isWish(thing, party)) {
            return UNKNOWN;
        }
        int mark = pushing.markOf(thing, party, i);
        return mark == NONE ? NONE : mark / 2;
    }

    public int way(int thing, int party, int i) {
        if (!isWish(thing, party)) {
            return UNKNOWN;
        }
        int mark = pushing.markOf(thing, party, i);
        return mark == NONE ? NONE : mark % 2;
    }

    public int soonest(int thing, int party) {
        return isWish(thing, party) ? pushing.firstHour(thing, party) : UNKNOWN;
    }

    public int ward(int thing, int party) {
        return isWish(thing, party) ? pushing.fewest(thing, party, true) : UNKNOWN;
    }

    public int all(int party) {
        return isAskedParty(party) ? pushing.fewestOfAll(party) : UNKNOWN;
    }

    // What is thrown in and never pushed.

    public int eddy(int cell) {
        return coast.hasCell(cell) ? throwing.tidesToReturn(cell) : UNKNOWN;
    }

    public int stuck() {
        return coast.isTold() ? throwing.neverUp() : UNKNOWN;
    }

    public int drop(int party, int hour) {
        if (!isAskedParty(party) || !isWithin(hour, LAST_THROW)) {
            return UNKNOWN;
        }
        return throwing.wonFrom(party, hour);
    }

    public int drops(int party) {
        return isAskedParty(party) ? throwing.bestHour(party) : UNKNOWN;
    }

    public int origins(int from, int hour, int cell) {
        if (!coast.hasCell(cell) || !isWithin(hour, LAST_HOUR) || !isWithin(from, hour)) {
            return UNKNOWN;
        }
        return throwing.cellsBehind(from, hour, cell);
    }

    public int when(int from, int hour, int cell) {
        if (!coast.hasCell(from) || !coast.hasCell(cell) || !isWithin(hour, LAST_HOUR)) {
            return UNKNOWN;
        }
        return throwing.latestThrow(from, hour, cell);
    }

    // Currents by floats.

    public int fits(int slot) {
        return floats.collect(slot);
    }

    public int fit(int slot, int what) {
        if (floats.collect(slot) < 1) {
            return NO_STEPS;
        }
        switch (what) {
            case 0:
                return Floats.floodOf(floats.smallest());
            case 1:
                return Floats.ebbOf(floats.smallest());
            default:
                return NO_STEPS;
        }
    }

    public int ask(int slot) {
        int now = floats.collect(slot);
        return now < 0 ? now : floats.bestCell();
    }

    public int leaves(int slot) {
        int now = floats.collect(slot);
        if (now < 0) {
            return now;
        }
        int cell = floats.bestCell();
        return cell == NONE ? now : floats.worstAfter(cell);
    }

    // Sitters.

    public int share(int sitter) {
        if (!coast.hasSitter(sitter)) {
            return UNKNOWN;
        }
        return seating.worthOn(sitter, coast.seatCells[sitter]);
    }

    public int seat(int sitter, int cell) {
        if (!coast.hasSitter(sitter) || !coast.hasCell(cell)) {
            return UNKNOWN;
        }
        return seating.worthOn(sitter, cell);
    }

    public int seats(int sitter) {
        return coast.hasSitter(sitter) ? seating.bestCell(sitter) : UNKNOWN;
    }

    public int rests() {
        return coast.isTold() ? seating.countRests() : UNKNOWN;
    }

    public int rest(int sitter) {
        return coast.hasSitter(sitter) ? seating.firstRest(sitter) : UNKNOWN;
    }

    // What is done, and taken back.

    public int sit(int sitter, int cell) {
        if (!coast.hasSitter(sitter) || !coast.hasCell(cell)) {
            return UNKNOWN;
        }
        if (coast.acts.isFull()) {
            return REFUSED;
        }
        int old = coast.seatCells[sitter];
        coast.acts.addSit(sitter, old);
        coast.seatCells[sitter] = cell;
        return old;
    }

    public int shove(int thing, int hour, int back) {
        if (!coast.hasThing(thing) || !isWithin(hour, LAST_HOUR) || !isWithin(back, 1)) {
            return UNKNOWN;
        }
        if (coast.acts.isFull() || coast.acts.isPushed(thing, hour)) {
            return REFUSED;
        }
        coast.acts.addPush(thing, hour, back == 1 ? -1 : 1);
        drift.settle(thing);
        return coast.acts.pushesOf(thing);
    }

    public int undo() {
        if (!coast.isTold()) {
            return UNKNOWN;
        }
        if (coast.acts.size < 1) {
            return REFUSED;
        }
        int moved = coast.takeBack();
        if (moved != NONE) {
            drift.settle(moved);
        }
        return coast.acts.size;
    }

    public int anew() {
        if (!coast.isTold()) {
            return UNKNOWN;
        }
        int done = coast.acts.size;
        for (int i = 0; i < done; i++) {
            coast.takeBack();
        }
        drift.settleAll();
        return done;
    }

    public int rate(int thing, int n) {
        if (!coast.hasThing(thing) || !isWithin(n, MOST_WORTH)) {
            return UNKNOWN;
        }
        if (coast.acts.size > 0) {
            return REFUSED;
        }
        int old = coast.worths[thing];
        coast.worths[thing] = n;
        return old;
    }

    // Gales.

    private boolean isGale(int seed, int thing) {
        return coast.hasThing(thing) && isWithin(seed, LAST_SEED);
    }

    private static boolean isDrawnOften(int n) {
        return n >= 1 && n <= MOST_DRAWN;
    }

    public int drawn(int seed, int thing, int what) {
        if (!isGale(seed, thing) || !isWithin(what, 2)) {
            return UNKNOWN;
        }
        drift.run(thing, LAST_HOUR, seed);
        if (what == 0) {
            return drift.runHour;
        }
        return what == 1 ? drift.runBeach() : drift.runOwner();
    }

    public int luck(int seed, int n, int thing, int party) {
        if (!isGale(seed, thing) || !isDrawnOften(n) || !isAskedParty(party)) {
            return UNKNOWN;
        }
        int lucky = 0;
        for (int i = 0; i < n; i++) {
            drift.run(thing, LAST_HOUR, seed + i);
            if (drift.runOwner() == party) {
                lucky++;
            }
        }
        return lucky;
    }

    public int waits(int seed, int n, int thing) {
        if (!isGale(seed, thing) || !isDrawnOften(n)) {
            return UNKNOWN;
        }
        return drift.commonestBeach(thing, seed, n);
    }

    // Images.

    public int image(int k) {
        if (k < 0 || k >= IMAGES) {
            return UNKNOWN;
        }
        images[k].copyFrom(coast);
        kept[k] = true;
        return 0;
    }

    public int back(int k) {
        if (k < 0 || k >= IMAGES) {
            return UNKNOWN;
        }
        if (!kept[k]) {
            return NOTHING;
        }
        coast.copyFrom(images[k]);
        drift.settleAll();
        return 0;
    }

    // Slots.

    public int row(int slot, int width, int n) {
        if (!Slots.isSlot(slot) || width < 0 || width >= WIDTHS || n > SLOT_NUMBERS) {
            return UNKNOWN;
        }
        if (n < 0) {
            return BELOW_ZERO;
        }
        slots.lay(slot, width, n);
        return 0;
    }

    public int write(int slot, int i, long v) {
        if (!Slots.isSlot(slot)) {
            return UNKNOWN;
        }
        if (!slots.hasRow(slot)) {
            return NOTHING;
        }
        if (i < 0 || i >= slots.sizes[slot]) {
            return BEYOND;
        }
        slots.put(slot, i, v);
        return 0;
    }

    public int paste(int slot, int i, int to, int k, int n) {
        if (!Slots.isSlot(slot) || !Slots.isSlot(to)) {
            return UNKNOWN;
        }
        if (!slots.hasRow(slot) || !slots.hasRow(to)) {
            return NOTHING;
        }
        if (slots.widths[slot] != slots.widths[to]) {
            return UNLIKE;
        }
        if (!slots.holds(slot, i, n) || !slots.holds(to, k, n)) {
            return BEYOND;
        }
        System.arraycopy(slots.numbers[slot], i, slots.numbers[to], k, n);
        return 0;
    }

    /** The round of flood, slack, ebb, slack. */
    private static final class Tide {
        int flood;
        int slack;
        int ebb;
        int round;
        /** By HOUR of the round, since every step of a drift asks for it. */
        private final int[] phases = new int[MOST_ROUND_HOURS];

        void tell(int floodHours, int slackHours, int ebbHours) {
            flood = floodHours;
            slack = slackHours;
            ebb = ebbHours;
            round = flood + slack + ebb + slack;
            Arrays.fill(phases, SLACK);
            for (int h = 0; h < flood && h < MOST_ROUND_HOURS; h++) {
                phases[h] = FLOOD;
            }
            for (int h = flood + slack; h < round - slack && h < MOST_ROUND_HOURS; h++) {
                phases[h] = EBB;
            }
        }

        /** HOURS ahead of 0 are taken as if the round went on backwards, for clocks that are wrong. */
        int phaseOf(int hour) {
            if (round < 1 || round > MOST_ROUND_HOURS) {
                return SLACK;
            }
            return phases[(hour % round + round) % round];
        }

        int hoursLeft(int hour) {
            if (round < 1) {
                return 1;
            }
            int h = hour % round;
            if (h < flood) {
                return flood - h;
            }
            if (h < flood + slack) {
                return flood + slack - h;
            }
            if (h < round - slack) {
                return round - slack - h;
            }
            return round - h;
        }

        int slackHoursAhead(int hour) {
            if (round < 1) {
                return 0;
            }
            int h = hour % round;
            int first = Math.min(Math.max(h - flood, 0), slack);
            int second = Math.max(h - flood - slack - ebb, 0);
            return hour / round * 2 * slack + first + second;
        }

        int firstOf(int hour, int phase) {
            for (int ahead = 0; ahead < round; ahead++) {
                if (phaseOf(hour + ahead) == phase) {
                    return hour + ahead;
                }
            }
            return NONE;
        }
    }

    /** The rules, in the order in which they decide. */
    private static final class RuleBook {
        int size;
        final int[] firstCells = new int[MOST_RULES];
        final int[] lastCells = new int[MOST_RULES];
        final int[] phaseBits = new int[MOST_RULES];
        final int[] parties = new int[MOST_RULES];

        void copyFrom(RuleBook other) {
            size = other.size;
            System.arraycopy(other.firstCells, 0, firstCells, 0, MOST_RULES);
            System.arraycopy(other.lastCells, 0, lastCells, 0, MOST_RULES);
            System.arraycopy(other.phaseBits, 0, phaseBits, 0, MOST_RULES);
            System.arraycopy(other.parties, 0, parties, 0, MOST_RULES);
        }

        boolean hasRule(int rule) {
            return rule >= 0 && rule < size;
        }

        boolean isFull() {
            return size >= MOST_RULES;
        }

        void addRule(int first, int last, int bits, int party) {
            if (!isFull()) {
                firstCells[size] = first;
                lastCells[size] = last;
                phaseBits[size] = bits;
                parties[size] = party;
                size++;
            }
        }

        boolean stands(int rule, int cell, int phase) {
            return cell >= firstCells[rule] && cell <= lastCells[rule]
                    && (phaseBits[rule] >> phase & 1) == 1;
        }

        /** The first RULE that stands, a struck one (or NONE) left out. */
        int decider(int cell, int phase, int struck) {
            for (int rule = 0; rule < size; rule++) {
                if (rule != struck && stands(rule, cell, phase)) {
                    return rule;
                }
            }
            return NONE;
        }

        boolean saysTwoThings(int cell, int phase) {
            int first = decider(cell, phase, NONE);
            for (int rule = first; rule >= 0 && rule < size; rule++) {
                if (stands(rule, cell, phase) && parties[rule] != parties[first]) {
                    return true;
                }
            }
            return false;
        }
    }

    /** What was done, in order, so that it can be taken back. */
    private static final class Acts {
        int size;
        /** 1 or -1 for a THING pushed on or back, 0 for a SITTER moved. */
        final int[] ways = new int[MOST_ACTS];
        final int[] whos = new int[MOST_ACTS];
        /** The HOUR of a push, or the CELL on which a SITTER sat before. */
        final int[] marks = new int[MOST_ACTS];

        void copyFrom(Acts other) {
            size = other.size;
            System.arraycopy(other.ways, 0, ways, 0, MOST_ACTS);
            System.arraycopy(other.whos, 0, whos, 0, MOST_ACTS);
            System.arraycopy(other.marks, 0, marks, 0, MOST_ACTS);
        }

        boolean isFull() {
            return size >= MOST_ACTS;
        }

        void addSit(int sitter, int oldCell) {
            addAct(0, sitter, oldCell);
        }

        void addPush(int thing, int hour, int way) {
            addAct(way, thing, hour);
        }

        private void addAct(int way, int who, int mark) {
            if (!isFull()) {
                ways[size] = way;
                whos[size] = who;
                marks[size] = mark;
                size++;
            }
        }

        boolean isPushOf(int act, int thing) {
            return ways[act] != 0 && whos[act] == thing;
        }

        boolean isPushed(int thing, int hour) {
            for (int act = 0; act < size; act++) {
                if (isPushOf(act, thing) && marks[act] == hour) {
                    return true;
                }
            }
            return false;
        }

        int pushesOf(int thing) {
            int pushes = 0;
            for (int act = 0; act < size; act++) {
                if (isPushOf(act, thing)) {
                    pushes++;
                }
            }
            return pushes;
        }
    }

    /** A SHORE and what was done on it; without LINES there is none. */
    private static final class Coast {
        int lines;
        int cells;
        int odds;
        final Tide tide = new Tide();
        final int[] floodSteps = new int[MOST_CELLS];
        final int[] ebbSteps = new int[MOST_CELLS];
        int beachBits;
        int things;
        final int[] worths = new int[MOST_THINGS];
        final int[] startCells = new int[MOST_THINGS];
        final int[] startHours = new int[MOST_THINGS];
        final RuleBook rules = new RuleBook();
        int sitters;
        final int[] seatCells = new int[MOST_SITTERS];
        final Acts acts = new Acts();

        void clear() {
            lines = 0;
            cells = 0;
            odds = 0;
            tide.tell(0, 0, 0);
            Arrays.fill(floodSteps, 0);
            Arrays.fill(ebbSteps, 0);
            beachBits = 0;
            things = 0;
            rules.size = 0;
            sitters = 0;
            acts.size = 0;
        }

        void copyFrom(Coast other) {
            lines = other.lines;
            cells = other.cells;
            odds = other.odds;
            tide.tell(other.tide.flood, other.tide.slack, other.tide.ebb);
            System.arraycopy(other.floodSteps, 0, floodSteps, 0, MOST_CELLS);
            System.arraycopy(other.ebbSteps, 0, ebbSteps, 0, MOST_CELLS);
            beachBits = other.beachBits;
            things = other.things;
            System.arraycopy(other.worths, 0, worths, 0, MOST_THINGS);
            System.arraycopy(other.startCells, 0, startCells, 0, MOST_THINGS);
            System.arraycopy(other.startHours, 0, startHours, 0, MOST_THINGS);
            rules.copyFrom(other.rules);
            sitters = other.sitters;
            System.arraycopy(other.seatCells, 0, seatCells, 0, MOST_SITTERS);
            acts.copyFrom(other.acts);
        }

        boolean isTold() {
            return lines > 0;
        }

        boolean hasCell(int cell) {
            return cell >= 0 && cell < cells;
        }

        boolean hasThing(int thing) {
            return thing >= 0 && thing < things;
        }

        boolean hasSitter(int sitter) {
            return sitter >= 0 && sitter < sitters;
        }

        boolean isBeach(int cell) {
            return (beachBits >> cell & 1) == 1;
        }

        /** The CELL so many on, or the first or last one, if that is beyond. */
        int shifted(int cell, int steps) {
            int to = cell + steps;
            if (to < 0) {
                return 0;
            }
            return to < cells ? to : cells - 1;
        }

        int drifted(int cell, int hour) {
            switch (tide.phaseOf(hour)) {
                case FLOOD:
                    return shifted(cell, floodSteps[cell]);
                case EBB:
                    return shifted(cell, ebbSteps[cell]);
                default:
                    return cell;
            }
        }

        /** Where what is afloat is an HOUR later, pushed by a way (1, -1, or 0: not). */
        int pushedAndDrifted(int cell, int way, int hour) {
            return drifted(shifted(cell, way), hour);
        }

        int ownerIn(int cell, int hour, int struck) {
            int rule = rules.decider(cell, tide.phaseOf(hour), struck);
            return rule == NONE ? NONE : rules.parties[rule];
        }

        /** Takes the latest act back: the THING that drifts anew by that, or NONE. */
        int takeBack() {
            if (acts.size < 1) {
                return NONE;
            }
            acts.size--;
            int who = acts.whos[acts.size];
            if (acts.ways[acts.size] != 0) {
                return who;
            }
            seatCells[who] = acts.marks[acts.size];
            return NONE;
        }
    }

    /**
     * Reads the tape's text into a draft. Behind the first FAULT nothing is read on, so that
     * this FAULT stays, and each number that is asked for then is the least of its bounds.
     */
    private static final class Reader {
        private static final int END = 0;
        private static final int WORD = 1;
        private static final int NUMBER = 2;
        private static final int SIGN = 3;
        private static final int STRANGE = 4;
        private static final int BLANK = 5;
        private static final int BEYOND_ALL_BOUNDS = 1000000;

        private final byte[] text;
        private final Coast draft;
        private int length;
        private int kind;
        private int start;
        private int stop;
        private int value;
        int faultKind;
        int faultPlace;

        Reader(byte[] tape, Coast coast) {
            text = tape;
            draft = coast;
        }

        void read(int bytes) {
            length = Math.max(0, Math.min(bytes, text.length));
            stop = 0;
            faultKind = 0;
            faultPlace = NONE;
            draft.clear();
            advance();
            for (int i = 0; i <= TAPE_BYTES && kind != END && !failed(); i++) {
                readLine();
                expectSign();
                draft.lines++;
            }
        }

        private boolean failed() {
            return faultKind != 0;
        }

        private void fail(int fault) {
            if (faultKind == 0) {
                faultKind = fault;
                faultPlace = start;
            }
        }

        private void advance() {
            start = stop;
            while (start < length && kindOf(text[start]) == BLANK) {
                start++;
            }
            stop = start;
            value = 0;
            kind = start < length ? kindOf(text[start]) : END;
            while (stop < length && (stop == start || isLong()) && kindOf(text[stop]) == kind) {
                if (kind == NUMBER) {
                    value = Math.min(value * 10 + text[stop] - '0', BEYOND_ALL_BOUNDS);
                }
                stop++;
            }
        }

        private boolean isLong() {
            return kind == WORD || kind == NUMBER;
        }

        private static int kindOf(byte sign) {
            if (sign >= 'a' && sign <= 'z') {
                return WORD;
            }
            if (sign >= '0' && sign <= '9') {
                return NUMBER;
            }
            if (sign == ' ' || sign == '\n') {
                return BLANK;
            }
            return sign == ';' ? SIGN : STRANGE;
        }

        private boolean isWord(String word) {
            if (kind != WORD || stop - start != word.length()) {
                return false;
            }
            for (int i = 0; i < word.length(); i++) {
                if (text[start + i] != word.charAt(i)) {
                    return false;
                }
            }
            return true;
        }

        private void expectWord(String word) {
            if (!isWord(word)) {
                fail(1);
            }
            if (!failed()) {
                advance();
            }
        }

        private void expectSign() {
            if (kind != SIGN) {
                fail(1);
            }
            if (!failed()) {
                advance();
            }
        }

        private int expectNumber(int least, int most) {
            if (kind != NUMBER) {
                fail(1);
            } else if (value < least || value > most) {
                fail(2);
            }
            if (failed()) {
                return least;
            }
            int number = value;
            advance();
            return number;
        }

        private void readLine() {
            if (draft.lines == 0) {
                readShore();
            } else if (isWord("current")) {
                readCurrent();
            } else if (isWord("beach")) {
                readBeach();
            } else if (isWord("thing")) {
                readThing();
            } else if (isWord("rule")) {
                readRule();
            } else if (isWord("sitter")) {
                readSitter();
            } else {
                fail(1);
            }
        }

        private void readShore() {
            expectWord("shore");
            expectWord("cells");
            draft.cells = expectNumber(LEAST_CELLS, MOST_CELLS);
            expectWord("flood");
            int flood = expectNumber(1, MOST_RUN);
            expectWord("slack");
            int slack = expectNumber(0, MOST_SLACK);
            expectWord("ebb");
            int ebb = expectNumber(1, MOST_RUN);
            expectWord("odds");
            draft.odds = expectNumber(0, 100);
            draft.tide.tell(flood, slack, ebb);
        }

        private void readCurrent() {
            advance();
            int cell = expectNumber(0, draft.cells - 1);
            expectWord("flood");
            int flood = readWay() * expectNumber(0, MOST_STEPS);
            expectWord("ebb");
            int ebb = readWay() * expectNumber(0, MOST_STEPS);
            draft.floodSteps[cell] = flood;
            draft.ebbSteps[cell] = ebb;
        }

        private int readWay() {
            if (failed() || !isWord("back")) {
                return 1;
            }
            advance();
            return -1;
        }

        private void readBeach() {
            advance();
            draft.beachBits |= 1 << expectNumber(0, draft.cells - 1);
        }

        private void readThing() {
            if (draft.things >= MOST_THINGS) {
                fail(3);
                return;
            }
            advance();
            expectWord("worth");
            draft.worths[draft.things] = expectNumber(0, MOST_WORTH);
            expectWord("at");
            draft.startCells[draft.things] = expectNumber(0, draft.cells - 1);
            expectWord("from");
            draft.startHours[draft.things] = expectNumber(0, LAST_THROW);
            draft.things++;
        }

        private void readRule() {
            if (draft.rules.isFull()) {
                fail(3);
                return;
            }
            advance();
            int first = expectNumber(0, draft.cells - 1);
            expectWord("to");
            int last = expectNumber(first, draft.cells - 1);
            expectWord("on");
            int bits = readPhases();
            expectWord("to");
            draft.rules.addRule(first, last, bits, expectNumber(0, PARTIES - 1));
        }

        private int readPhases() {
            int bits = 0;
            for (int i = 0; i <= TAPE_BYTES; i++) {
                int bit = isWord("flood") ? 1 << FLOOD
                        : isWord("slack") ? 1 << SLACK
                        : isWord("ebb") ? 1 << EBB : 0;
                if (bit == 0 || failed()) {
                    break;
                }
                bits |= bit;
                advance();
            }
            if (bits == 0) {
                fail(1);
            }
            return bits;
        }

        private void readSitter() {
            if (draft.sitters >= MOST_SITTERS) {
                fail(3);
                return;
            }
            advance();
            expectWord("at");
            draft.seatCells[draft.sitters] = expectNumber(0, draft.cells - 1);
            draft.sitters++;
        }
    }

    /** How the THINGS drift, pushed as done, and what becomes of them. */
    private static final class Drift {
        private static final long FACTOR = 1103515245L;
        private static final long ADDEND = 12345L;
        private static final long LARGEST = 2147483647L;

        private final Coast coast;
        /** Where and when each THING comes up, kept up to date as acts are done and undone. */
        final int[] upHours = new int[MOST_THINGS];
        final int[] upCells = new int[MOST_THINGS];
        private final byte[] ways = new byte[LAST_HOUR + 1];
        private final int[] trace = new int[LAST_HOUR + 1];
        private final int[] otherTrace = new int[LAST_HOUR + 1];
        private final int[] tally = new int[MOST_CELLS];
        /** What the latest run found: the HOUR of coming up, or NONE, and the last CELL. */
        int runHour;
        private int runCell;

        Drift(Coast told) {
            coast = told;
        }

        void settleAll() {
            for (int thing = 0; thing < coast.things; thing++) {
                settle(thing);
            }
        }

        void settle(int thing) {
            run(thing, LAST_HOUR, CALM);
            upHours[thing] = runHour;
            upCells[thing] = runBeach();
        }

        private void layWays(int thing) {
            Arrays.fill(ways, (byte) 0);
            for (int act = 0; act < coast.acts.size; act++) {
                if (coast.acts.isPushOf(act, thing)) {
                    ways[coast.acts.marks[act]] = (byte) coast.acts.ways[act];
                }
            }
        }

        /** Lets a THING drift to an HOUR, or until it comes up, in the gale of a seed, or CALM. */
        void run(int thing, int until, int seed) {
            layWays(thing);
            long x = seed;
            runHour = NONE;
            runCell = coast.startCells[thing];
            for (int hour = coast.startHours[thing]; hour < until; hour++) {
                if (seed != CALM) {
                    x = FACTOR * x + ADDEND & LARGEST;
                    if (x / 65536 % 100 < coast.odds) {
                        runCell = coast.shifted(runCell, 1);
                    }
                }
                runCell = coast.pushedAndDrifted(runCell, ways[hour], hour);
                if (coast.isBeach(runCell)) {
                    runHour = hour + 1;
                    return;
                }
            }
        }

        int runBeach() {
            return runHour == NONE ? NONE : runCell;
        }

        int runOwner() {
            return runHour == NONE ? NONE : coast.ownerIn(runCell, runHour, NONE);
        }

        int placeOf(int thing, int hour) {
            if (hour < coast.startHours[thing]) {
                return NONE;
            }
            run(thing, hour, CALM);
            return runCell;
        }

        /** WHOSE a THING is, if RULES took the PHASE so many HOURS later, a struck one left out. */
        int ownerOf(int thing, int later, int struck) {
            if (upHours[thing] == NONE) {
                return NONE;
            }
            return coast.ownerIn(upCells[thing], upHours[thing] + later, struck);
        }

        int worthOf(int party, int later, int struck) {
            int worth = 0;
            for (int thing = 0; thing < coast.things; thing++) {
                if (ownerOf(thing, later, struck) == party) {
                    worth += coast.worths[thing];
                }
            }
            return worth;
        }

        int thingsUpOn(int cell) {
            int bits = 0;
            for (int thing = 0; thing < coast.things; thing++) {
                if (upCells[thing] == cell) {
                    bits |= 1 << thing;
                }
            }
            return bits;
        }

        int arguedThings() {
            int bits = 0;
            for (int thing = 0; thing < coast.things; thing++) {
                if (upHours[thing] != NONE
                        && coast.rules.saysTwoThings(upCells[thing], upPhase(thing))) {
                    bits |= 1 << thing;
                }
            }
            return bits;
        }

        private int upPhase(int thing) {
            return coast.tide.phaseOf(upHours[thing]);
        }

        int thingsLeftToSitters() {
            int bits = 0;
            for (int thing = 0; thing < coast.things; thing++) {
                if (upHours[thing] != NONE && upPhase(thing) == SLACK
                        && coast.rules.decider(upCells[thing], SLACK, NONE) == NONE) {
                    bits |= 1 << thing;
                }
            }
            return bits;
        }

        int firstMeeting(int thing, int other) {
            traceAfloat(thing, trace);
            traceAfloat(other, otherTrace);
            for (int hour = 0; hour <= LAST_HOUR; hour++) {
                if (trace[hour] != NONE && trace[hour] == otherTrace[hour]) {
                    return hour;
                }
            }
            return NONE;
        }

        private void traceAfloat(int thing, int[] cellByHour) {
            Arrays.fill(cellByHour, NONE);
            layWays(thing);
            int cell = coast.startCells[thing];
            for (int hour = coast.startHours[thing]; hour <= LAST_HOUR; hour++) {
                cellByHour[hour] = cell;
                cell = coast.pushedAndDrifted(cell, ways[hour], hour);
                if (coast.isBeach(cell)) {
                    return;
                }
            }
        }

        int commonestBeach(int thing, int seed, int n) {
            Arrays.fill(tally, 0);
            for (int i = 0; i < n; i++) {
                run(thing, LAST_HOUR, seed + i);
                if (runHour != NONE) {
                    tally[runCell]++;
                }
            }
            int best = NONE;
            int most = 0;
            for (int cell = 0; cell < coast.cells; cell++) {
                if (tally[cell] > most) {
                    most = tally[cell];
                    best = cell;
                }
            }
            return best;
        }
    }

    /** The fewest pushes by which a THING comes up as wished to HOUR 100. */
    private static final class Pushing {
        /** Far above any count of pushes, and far enough from the largest int to be added to. */
        private static final int NEVER = 1000000;

        private final Coast coast;
        /** By HOUR and CELL: the pushes that are still needed by what is afloat there. */
        private final int[] costs = new int[(LAST_PUSHED_HOUR + 1) * MOST_CELLS];
        private int wishedParty;
        private boolean warded;

        Pushing(Coast told) {
            coast = told;
        }

        /** Finds the costs from the last HOUR back to the first that is asked for. */
        private void plan(int party, boolean ward, int fromHour) {
            wishedParty = party;
            warded = ward;
            Arrays.fill(costs, ward ? 0 : NEVER);
            for (int hour = LAST_PUSHED_HOUR - 1; hour >= fromHour; hour--) {
                for (int cell = 0; cell < coast.cells; cell++) {
                    int pushed = Math.min(costBy(cell, 1, hour), costBy(cell, -1, hour));
                    costs[placeIn(cell, hour)] = Math.min(costBy(cell, 0, hour), pushed);
                }
            }
        }

        private static int placeIn(int cell, int hour) {
            return hour * MOST_CELLS + cell;
        }

        private int costBy(int cell, int way, int hour) {
            int to = coast.pushedAndDrifted(cell, way, hour);
            int price = way == 0 ? 0 : 1;
            if (!coast.isBeach(to)) {
                return costs[placeIn(to, hour + 1)] + price;
            }
            boolean his = coast.ownerIn(to, hour + 1, NONE) == wishedParty;
            return his == warded ? NEVER : price;
        }

        private int costOf(int thing) {
            return costs[placeIn(coast.startCells[thing], coast.startHours[thing])];
        }

        int fewest(int thing, int party, boolean ward) {
            plan(party, ward, coast.startHours[thing]);
            int cost = costOf(thing);
            return cost >= NEVER ? NONE : cost;
        }

        int fewestOfAll(int party) {
            plan(party, false, 0);
            int sum = 0;
            for (int thing = 0; thing < coast.things; thing++) {
                int cost = costOf(thing);
                if (cost >= NEVER) {
                    return NONE;
                }
                sum += cost;
            }
            return sum;
        }

        /** Push i of the least row: twice its HOUR, and one more if it is back. */
        int markOf(int thing, int party, int i) {
            plan(party, false, coast.startHours[thing]);
            int cost = costOf(thing);
            if (cost >= NEVER || i < 0 || i >= cost) {
                return NONE;
            }
            int cell = coast.startCells[thing];
            int pushed = 0;
            for (int hour = coast.startHours[thing]; hour < LAST_PUSHED_HOUR; hour++) {
                int way = firstWay(cell, hour);
                if (way != 0 && pushed == i) {
                    return 2 * hour + (way < 0 ? 1 : 0);
                }
                if (way != 0) {
                    pushed++;
                }
                cell = coast.pushedAndDrifted(cell, way, hour);
            }
            return NONE;
        }

        /** A push now makes a lesser row than any later one, and one on a lesser than one back. */
        private int firstWay(int cell, int hour) {
            int cost = costs[placeIn(cell, hour)];
            if (costBy(cell, 1, hour) == cost) {
                return 1;
            }
            return costBy(cell, -1, hour) == cost ? -1 : 0;
        }

        int firstHour(int thing, int party) {
            int afloat = 1 << coast.startCells[thing];
            for (int hour = coast.startHours[thing]; hour < LAST_PUSHED_HOUR; hour++) {
                int reached = reachedFrom(afloat, hour);
                if (isWonBy(party, reached & coast.beachBits, hour + 1)) {
                    return hour + 1;
                }
                afloat = reached & ~coast.beachBits;
            }
            return NONE;
        }

        private int reachedFrom(int afloat, int hour) {
            int reached = 0;
            for (int cell = 0; cell < coast.cells; cell++) {
                if ((afloat >> cell & 1) == 1) {
                    reached |= 1 << coast.pushedAndDrifted(cell, 0, hour);
                    reached |= 1 << coast.pushedAndDrifted(cell, 1, hour);
                    reached |= 1 << coast.pushedAndDrifted(cell, -1, hour);
                }
            }
            return reached;
        }

        private boolean isWonBy(int party, int beaches, int hour) {
            for (int cell = 0; cell < coast.cells; cell++) {
                if ((beaches >> cell & 1) == 1 && coast.ownerIn(cell, hour, NONE) == party) {
                    return true;
                }
            }
            return false;
        }
    }

    /** What becomes of something thrown into a CELL and never pushed. */
    private static final class Throwing {
        private static final int ADRIFT = -3;

        private final Coast coast;
        /** By CELL: whose it comes to be from there, NONE: nobody's, ADRIFT: it does not come up. */
        private final int[] fates = new int[MOST_CELLS];
        private final int[] laterFates = new int[MOST_CELLS];

        Throwing(Coast told) {
            coast = told;
        }

        int tidesToReturn(int cell) {
            int round = coast.tide.round;
            int seen = 1 << cell;
            int now = cell;
            for (int tides = 1; tides <= coast.cells; tides++) {
                for (int hour = 0; hour < round; hour++) {
                    now = coast.drifted(now, hour);
                    if (coast.isBeach(now)) {
                        return NONE;
                    }
                }
                if ((seen >> now & 1) == 1) {
                    return tides;
                }
                seen |= 1 << now;
            }
            return NONE;
        }

        private void startFates() {
            Arrays.fill(fates, ADRIFT);
        }

        /** Turns the fates of what is afloat an HOUR later into those of this HOUR. */
        private void stepFates(int hour) {
            System.arraycopy(fates, 0, laterFates, 0, MOST_CELLS);
            for (int cell = 0; cell < coast.cells; cell++) {
                int to = coast.drifted(cell, hour);
                fates[cell] = coast.isBeach(to) ? coast.ownerIn(to, hour + 1, NONE) : laterFates[to];
            }
        }

        private void findFates(int hour) {
            startFates();
            for (int h = LAST_HOUR - 1; h >= hour; h--) {
                stepFates(h);
            }
        }

        private int cellsOf(int fate) {
            int bits = 0;
            for (int cell = 0; cell < coast.cells; cell++) {
                if (fates[cell] == fate) {
                    bits |= 1 << cell;
                }
            }
            return bits;
        }

        int neverUp() {
            findFates(0);
            return cellsOf(ADRIFT);
        }

        int wonFrom(int party, int hour) {
            findFates(hour);
            return cellsOf(party);
        }

        int bestHour(int party) {
            findFates(LAST_THROW + 1);
            int best = NONE;
            int most = 1;
            for (int hour = LAST_THROW; hour >= 0; hour--) {
                stepFates(hour);
                int won = Integer.bitCount(cellsOf(party));
                if (won >= most) {
                    most = won;
                    best = hour;
                }
            }
            return best;
        }

        private int cellsInto(int aims, int hour) {
            int bits = 0;
            for (int cell = 0; cell < coast.cells; cell++) {
                if ((aims >> coast.drifted(cell, hour) & 1) == 1) {
                    bits |= 1 << cell;
                }
            }
            return bits;
        }

        int cellsBehind(int from, int hour, int cell) {
            int bits = 1 << cell;
            for (int h = hour - 1; h >= from; h--) {
                // On a BEACH ahead of the last HOUR it would have come up there.
                int aims = h == hour - 1 ? bits : bits & ~coast.beachBits;
                bits = cellsInto(aims, h);
            }
            return bits;
        }

        int latestThrow(int from, int hour, int cell) {
            int aims = 1 << cell & coast.beachBits;
            for (int h = hour - 1; h >= 0 && aims != 0; h--) {
                int bits = cellsInto(aims, h);
                if ((bits >> from & 1) == 1) {
                    return h;
                }
                aims = bits & ~coast.beachBits;
            }
            return NONE;
        }
    }

    /** Who sits where, and what he has by it. */
    private static final class Seating {
        private final Coast coast;
        private final Drift drift;
        /** By how many sit there and CELL: the worth that each has. */
        private final int[] pays = new int[(MOST_SITTERS + 1) * MOST_CELLS];
        private final int[] crowd = new int[MOST_CELLS];
        private final int[] tried = new int[MOST_SITTERS];

        Seating(Coast told, Drift drifting) {
            coast = told;
            drift = drifting;
        }

        private int payFor(int thingBits, int heads) {
            if (heads < 1) {
                return 0;
            }
            int pay = 0;
            for (int thing = 0; thing < coast.things; thing++) {
                if ((thingBits >> thing & 1) == 1) {
                    pay += coast.worths[thing] / heads;
                }
            }
            return pay;
        }

        int worthOn(int sitter, int cell) {
            int heads = 1;
            for (int other = 0; other < coast.sitters; other++) {
                if (other != sitter && coast.seatCells[other] == cell) {
                    heads++;
                }
            }
            return payFor(drift.thingsUpOn(cell) & drift.thingsLeftToSitters(), heads);
        }

        int bestCell(int sitter) {
            int best = 0;
            int most = worthOn(sitter, 0);
            for (int cell = 1; cell < coast.cells; cell++) {
                int worth = worthOn(sitter, cell);
                if (worth > most) {
                    most = worth;
                    best = cell;
                }
            }
            return best;
        }

        private void layPays() {
            int left = drift.thingsLeftToSitters();
            for (int cell = 0; cell < coast.cells; cell++) {
                int bits = drift.thingsUpOn(cell) & left;
                for (int heads = 1; heads <= MOST_SITTERS; heads++) {
                    pays[heads * MOST_CELLS + cell] = payFor(bits, heads);
                }
            }
        }

        private int countWays() {
            int ways = 1;
            for (int sitter = 0; sitter < coast.sitters; sitter++) {
                ways *= coast.cells;
            }
            return ways;
        }

        int countRests() {
            layPays();
            int rests = 0;
            int ways = countWays();
            for (int way = 0; way < ways; way++) {
                if (tryWay(way) && isRest()) {
                    rests++;
                }
            }
            return rests;
        }

        int firstRest(int sitter) {
            layPays();
            int ways = countWays();
            for (int way = 0; way < ways; way++) {
                if (tryWay(way) && isRest()) {
                    return tried[sitter];
                }
            }
            return NONE;
        }

        /** Seats all as the way's number tells, the last SITTER by its lowest digit: if on BEACHES. */
        private boolean tryWay(int way) {
            Arrays.fill(crowd, 0);
            int left = way;
            for (int sitter = coast.sitters - 1; sitter >= 0; sitter--) {
                int cell = coast.cells < 1 ? 0 : left % coast.cells;
                left = coast.cells < 1 ? 0 : left / coast.cells;
                if (!coast.isBeach(cell)) {
                    return false;
                }
                tried[sitter] = cell;
                crowd[cell]++;
            }
            return true;
        }

        private boolean isRest() {
            for (int sitter = 0; sitter < coast.sitters; sitter++) {
                if (wouldMove(tried[sitter])) {
                    return false;
                }
            }
            return true;
        }

        private boolean wouldMove(int from) {
            int own = pays[crowd[from] * MOST_CELLS + from];
            for (int cell = 0; cell < coast.cells; cell++) {
                if (cell != from && coast.isBeach(cell)
                        && pays[(crowd[cell] + 1) * MOST_CELLS + cell] > own) {
                    return true;
                }
            }
            return false;
        }
    }

    /** Rows of numbers; all are held as longs, cut to their WIDTH as they are put. */
    private static final class Slots {
        final long[][] numbers = new long[SLOT_COUNT][SLOT_NUMBERS];
        final int[] widths = new int[SLOT_COUNT];
        final int[] sizes = new int[SLOT_COUNT];

        Slots() {
            Arrays.fill(sizes, NONE);
        }

        static boolean isSlot(int slot) {
            return slot >= 0 && slot < SLOT_COUNT;
        }

        boolean hasRow(int slot) {
            return sizes[slot] != NONE;
        }

        int filled() {
            int filled = 0;
            for (int slot = 0; slot < SLOT_COUNT; slot++) {
                if (hasRow(slot)) {
                    filled++;
                }
            }
            return filled;
        }

        void lay(int slot, int width, int n) {
            widths[slot] = width;
            sizes[slot] = n;
            Arrays.fill(numbers[slot], 0L);
        }

        void put(int slot, int i, long v) {
            numbers[slot][i] = cut(v, widths[slot]);
        }

        private static long cut(long v, int width) {
            switch (width) {
                case 0:
                    return (byte) v;
                case 1:
                    return (short) v;
                case 2:
                    return (int) v;
                default:
                    return v;
            }
        }

        boolean holds(int slot, int from, int n) {
            return from >= 0 && n >= 0 && from <= sizes[slot] - n;
        }
    }

    /** Pairs of steps, the same for all CELLS, that fit what a SLOT's row tells of floats. */
    private static final class Floats {
        private static final int KINDS = 2 * MOST_STEPS + 1;
        private static final int PAIRS = KINDS * KINDS;
        private static final int TOLD = 4;
        private static final int LOOKED_FOR = 12;

        private final Coast coast;
        private final Slots slots;
        /** The pairs that fit, each as one number, from the least by flood, then by ebb, on. */
        private final int[] fitting = new int[PAIRS];
        private int fittingCount;
        private final int[] found = new int[MOST_CELLS];

        Floats(Coast told, Slots rows) {
            coast = told;
            slots = rows;
        }

        static int floodOf(int pair) {
            return pair / KINDS - MOST_STEPS;
        }

        static int ebbOf(int pair) {
            return pair % KINDS - MOST_STEPS;
        }

        /** Finds the pairs that fit a SLOT's row: how many, or what is amiss. */
        int collect(int slot) {
            fittingCount = 0;
            if (!Slots.isSlot(slot) || !coast.isTold()) {
                return UNKNOWN;
            }
            if (!slots.hasRow(slot)) {
                return NOTHING;
            }
            int size = slots.sizes[slot];
            if (size % TOLD != 0 || !areAllSuch(slots.numbers[slot], size)) {
                return UNKNOWN;
            }
            for (int pair = 0; pair < PAIRS; pair++) {
                if (fitsAll(pair, slots.numbers[slot], size)) {
                    fitting[fittingCount] = pair;
                    fittingCount++;
                }
            }
            return fittingCount;
        }

        private boolean areAllSuch(long[] numbers, int size) {
            for (int i = 0; i + TOLD <= size; i += TOLD) {
                if (!isCell(numbers[i]) || !isHour(numbers[i + 1]) || !isHour(numbers[i + 2])
                        || !isCell(numbers[i + 3]) || numbers[i + 2] < numbers[i + 1]) {
                    return false;
                }
            }
            return true;
        }

        private boolean isCell(long number) {
            return number >= 0 && number < coast.cells;
        }

        private static boolean isHour(long number) {
            return number >= 0 && number <= LAST_HOUR;
        }

        private boolean fitsAll(int pair, long[] numbers, int size) {
            for (int i = 0; i + TOLD <= size; i += TOLD) {
                int to = carried((int) numbers[i], (int) numbers[i + 1], (int) numbers[i + 2], pair);
                if (to != numbers[i + 3]) {
                    return false;
                }
            }
            return true;
        }

        /** Goes by whole PHASES: steps that are all one way may be cut at the shore's end at once. */
        private int carried(int cell, int hour, int later, int pair) {
            int now = cell;
            int h = hour;
            for (int i = 0; i <= LAST_HOUR && h < later; i++) {
                int hours = Math.min(coast.tide.hoursLeft(h), later - h);
                now = coast.shifted(now, stepsIn(coast.tide.phaseOf(h), pair) * hours);
                h += hours;
            }
            return now;
        }

        private static int stepsIn(int phase, int pair) {
            if (phase == SLACK) {
                return 0;
            }
            return phase == FLOOD ? floodOf(pair) : ebbOf(pair);
        }

        /** The pair of least steps; asked only if there is one. */
        int smallest() {
            int best = fitting[0];
            for (int i = 1; i < fittingCount; i++) {
                if (stepsOf(fitting[i]) < stepsOf(best)) {
                    best = fitting[i];
                }
            }
            return best;
        }

        private static int stepsOf(int pair) {
            return Math.abs(floodOf(pair)) + Math.abs(ebbOf(pair));
        }

        int worstAfter(int cell) {
            Arrays.fill(found, 0);
            int worst = 0;
            for (int i = 0; i < fittingCount; i++) {
                int to = carried(cell, 0, LOOKED_FOR, fitting[i]);
                found[to]++;
                worst = Math.max(worst, found[to]);
            }
            return worst;
        }

        int bestCell() {
            int best = NONE;
            int least = fittingCount;
            for (int cell = 0; cell < coast.cells; cell++) {
                int worst = worstAfter(cell);
                if (worst < least) {
                    least = worst;
                    best = cell;
                }
            }
            return best;
        }
    }
}
