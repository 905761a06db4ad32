import java.util.Arrays;

/** A wall of votes. What each call answers stands in DOC.md, by the promises' numbers. */
public final class WallVotes {
    public static final int NONE = -1;

    private static final int UNKNOWN = -2;
    private static final int USED_UP = -3;
    private static final int FAULTY = -4;
    private static final int FORBIDDEN = -5;
    private static final int VOID = -6;
    private static final int BEYOND = -7;
    private static final int UNLIKE = -8;
    private static final int NOTHING = -1000000;

    private static final int EAST = 0;
    private static final int WEST = 1;
    /** Who WON while nobody has, and who leads where both COUNTS are alike. */
    private static final int NOBODY = 2;

    private static final int MORE = 0;
    private static final int HEAVIER = 1;
    private static final int HIGHER = 2;

    private static final int MOST_WIDE = 8;
    private static final int MOST_HIGH = 12;
    private static final int PLACES = 2 * MOST_WIDE;
    private static final int MOST_STONES = MOST_WIDE * MOST_HIGH;
    private static final int MOST_SORTS = 5;
    private static final int MOST_VOTERS = 10;
    private static final int MOST_SETS = 1 << MOST_VOTERS;
    private static final int MOST_YEARS = 100;
    private static final int MOST_BYTES = 1600;
    private static final int BYTES_FED = 20;
    private static final int MOST_NUMBERS = 60;
    private static final int MOST_BUDGET = 999;
    private static final int MOST_SEED = 2000000000;
    private static final int MOST_FILLED = 200;
    private static final int MOST_TURNED = 3;

    private static final int WANTS_WINNER = 2;
    private static final int WANTS_LOSER = 3;
    /** PLACES of a voter: 0 .. 7 stand for near that COLUMN. */
    private static final int LOW = 8;
    private static final int HIGH = 9;
    private static final int LIGHT = 0;
    private static final int HEAVY = 1;

    private final Tape tape = new Tape();
    private final Reader reader = new Reader();
    private final State state = freshState();
    private final State thought = freshState();
    private final State[] images = {freshState(), freshState(), freshState()};
    private final boolean[] kept = new boolean[3];
    private final Slot[] slots = {new Slot(), new Slot(), new Slot(), new Slot()};
    private final Turnouts turnouts = new Turnouts();
    private final Winds winds = new Winds();
    private final Masons masons = new Masons();
    private final Wreckers wreckers = new Wreckers();

    public WallVotes() {
    }

    public int feed(int a, int b, int c, int d, int e) {
        if (tape.size + BYTES_FED > MOST_BYTES) {
            return NONE;
        }
        tape.append(a);
        tape.append(b);
        tape.append(c);
        tape.append(d);
        tape.append(e);
        return tape.size;
    }

    public int end(int n) {
        if (n < 0 || n > tape.size) {
            return NONE;
        }
        tape.size = n;
        return n;
    }

    public int town() {
        if (!reader.reads(tape)) {
            return FAULTY;
        }
        tape.size = 0;
        state.found(reader.draft);
        return state.town.lines;
    }

    public int fault(int what) {
        switch (what) {
            case 0: return reader.kind;
            case 1: return reader.place;
            default: return NONE;
        }
    }

    public int may(int side, int column, int sort) {
        if (!hasColumn(side, column) || !hasSort(sort)) {
            return UNKNOWN;
        }
        return state.wall.fits(placeOf(side, column), state.town.weight[sort]) ? 1 : 0;
    }

    public int lay(int side, int column, int sort) {
        if (!hasColumn(side, column) || !hasSort(sort)) {
            return UNKNOWN;
        }
        if (state.wall.pile[sort] <= 0) {
            return USED_UP;
        }
        int place = placeOf(side, column);
        if (!state.wall.fits(place, state.town.weight[sort])) {
            return FORBIDDEN;
        }
        return state.wall.put(place, sort, NONE, state.year);
    }

    public int take(int side, int column) {
        if (!hasColumn(side, column)) {
            return UNKNOWN;
        }
        int place = placeOf(side, column);
        return state.wall.heights[place] <= 0 ? FORBIDDEN : state.wall.remove(place);
    }

    public int stone(int side, int column, int z, int what) {
        if (!hasColumn(side, column) || what < 0 || what > 3) {
            return UNKNOWN;
        }
        int place = placeOf(side, column);
        if (z < 0 || z >= state.wall.heights[place]) {
            return NONE;
        }
        switch (what) {
            case 0: return state.wall.sorts[indexOf(place, z)];
            case 1: return state.wall.hands[indexOf(place, z)];
            case 2: return state.wall.years[indexOf(place, z)];
            default: return state.wall.weightFrom(place, z + 1);
        }
    }

    public int side(int side, int what) {
        if (!hasSide(side)) {
            return UNKNOWN;
        }
        switch (what) {
            case 0: return state.wall.tally(side, MORE);
            case 1: return state.wall.tally(side, HEAVIER);
            case 2: return state.wall.tally(side, HIGHER);
            case 3: return state.wall.tally(side, state.rule);
            case 4: return state.wall.openJoints(side);
            default: return UNKNOWN;
        }
    }

    public int pile(int sort) {
        return hasSort(sort) ? state.wall.pile[sort] : UNKNOWN;
    }

    public int spare(int side, int column) {
        if (!hasColumn(side, column)) {
            return UNKNOWN;
        }
        int place = placeOf(side, column);
        int weight = 9;
        while (weight > 0 && !state.wall.fits(place, weight)) {
            weight--;
        }
        return weight;
    }

    public int slack(int side) {
        if (!hasSide(side)) {
            return UNKNOWN;
        }
        int least = NONE;
        for (int column = 0; column < state.town.wide; column++) {
            int place = placeOf(side, column);
            int room = state.wall.roomOn(place);
            if (state.wall.heights[place] > 0 && (least == NONE || room < least)) {
                least = room;
            }
        }
        return least;
    }

    public int fill(int side, int sort) {
        if (!hasSide(side) || !hasSort(sort)) {
            return UNKNOWN;
        }
        thought.become(state);
        int laid = 0;
        while (laid < MOST_FILLED) {
            int column = thought.wall.chooseColumn(side, thought.town.weight[sort], LOW);
            if (column == NONE) {
                break;
            }
            thought.wall.put(placeOf(side, column), sort, NONE, thought.year);
            laid++;
        }
        return laid;
    }

    public int leads() {
        return hasTown() ? state.leader(state.rule) : UNKNOWN;
    }

    public int would(int voter, int what) {
        if (!hasVoter(voter)) {
            return UNKNOWN;
        }
        switch (what) {
            case 0: return state.sideOf(voter);
            case 1: return state.sortOf(voter);
            case 2: return state.columnOf(voter, state.sortOf(voter));
            default: return UNKNOWN;
        }
    }

    public int vote(int voter) {
        if (!hasVoter(voter)) {
            return UNKNOWN;
        }
        int place = state.cast(voter);
        return place == NONE ? NONE : state.wall.heights[place];
    }

    public int election(int set) {
        if (!hasSet(set)) {
            return UNKNOWN;
        }
        return isOver() ? USED_UP : state.elect(set);
    }

    public int result(int set) {
        if (!hasSet(set)) {
            return UNKNOWN;
        }
        if (isOver()) {
            return USED_UP;
        }
        thought.become(state);
        return thought.elect(set);
    }

    public int won(int year) {
        return hadElection(year) ? state.winners[year] : UNKNOWN;
    }

    public int votes(int year, int side) {
        return hadElection(year) && hasSide(side) ? state.ballots[2 * year + side] : UNKNOWN;
    }

    public int still(int year, int side) {
        return hadElection(year) && hasSide(side) ? state.wall.votesLying(side, year) : UNKNOWN;
    }

    public int lost() {
        return hasTown() ? state.votesLost() : NONE;
    }

    public int read(int year) {
        if (!hadElection(year)) {
            return UNKNOWN;
        }
        int east = state.wall.votesLying(EAST, year);
        int west = state.wall.votesLying(WEST, year);
        int gone = state.votesLost();
        if (east > west + gone) {
            return EAST;
        }
        return west > east + gone ? WEST : NOBODY;
    }

    public int hands(int voter) {
        if (!hasVoter(voter)) {
            return UNKNOWN;
        }
        return state.wall.stonesBy(EAST, voter) + state.wall.stonesBy(WEST, voter);
    }

    public int ghosts(int side) {
        if (!hasSide(side)) {
            return UNKNOWN;
        }
        int found = 0;
        for (int voter = 0; voter < state.town.voters; voter++) {
            if (state.year > state.town.until[voter]) {
                found += state.wall.stonesBy(side, voter);
            }
        }
        return found;
    }

    public int pivot(int what) {
        if (!hasTown() || what < 0 || what > 1) {
            return UNKNOWN;
        }
        if (isOver()) {
            return USED_UP;
        }
        turnouts.tabulate(state, thought);
        int away = turnouts.fewestAway();
        return what == 0 && away != NONE ? Integer.bitCount(away) : away;
    }

    public int fetch(int side, int budget) {
        if (!hasSide(side) || budget < 0 || budget > MOST_BUDGET) {
            return UNKNOWN;
        }
        if (isOver()) {
            return USED_UP;
        }
        turnouts.tabulate(state, thought);
        return turnouts.farthestAhead(side, budget);
    }

    public int margin(int side, int budget) {
        if (!hasSide(side) || budget < 0 || budget > MOST_BUDGET || isOver()) {
            return NOTHING;
        }
        turnouts.tabulate(state, thought);
        return turnouts.ahead(turnouts.farthestAhead(side, budget), side);
    }

    public int cheap(int side) {
        if (!hasSide(side)) {
            return UNKNOWN;
        }
        if (isOver()) {
            return USED_UP;
        }
        turnouts.tabulate(state, thought);
        return turnouts.leastFar(side);
    }

    public int turn(int side, int what) {
        if (!hasSide(side) || what < 0 || what > 1) {
            return UNKNOWN;
        }
        thought.become(state);
        int fewest = masons.fewestToLead(thought, side);
        if (what == 0 || fewest == USED_UP) {
            return fewest;
        }
        return fewest == 0 ? NONE : masons.firstLaid;
    }

    public int bribe(int side) {
        if (!hasSide(side)) {
            return UNKNOWN;
        }
        thought.become(state);
        int weight = masons.leastWeightToLead(thought, side);
        return weight == USED_UP ? USED_UP : weight * state.town.mason;
    }

    public int tear(int side) {
        if (!hasSide(side)) {
            return UNKNOWN;
        }
        return wreckers.fewestTorn(state, side);
    }

    public long gale(int what) {
        if (!hasTown() || what < 0 || what > 2) {
            return UNKNOWN;
        }
        winds.blow(state);
        return winds.led[what];
    }

    public long falls(int n) {
        if (!hasTown() || n < 0 || n > PLACES) {
            return UNKNOWN;
        }
        winds.blow(state);
        return winds.fallen[n];
    }

    public int power(int voter) {
        if (!hasVoter(voter)) {
            return UNKNOWN;
        }
        if (isOver()) {
            return USED_UP;
        }
        turnouts.tabulate(state, thought);
        return turnouts.turnedBy(voter);
    }

    public int span(int year, int side, int what) {
        if (!hadElection(year) || !hasSide(side) || what < 0 || what > 1) {
            return UNKNOWN;
        }
        int least = state.wall.votesLying(side, year);
        return what == 0 ? least : least + state.votesLost();
    }

    public int oldest(int side) {
        return hasSide(side) ? state.wall.earliestVote(side) : UNKNOWN;
    }

    public int course(int side, int n) {
        if (!hasSide(side) || n < 1 || n > MOST_HIGH) {
            return UNKNOWN;
        }
        int found = 0;
        for (int column = 0; column < state.town.wide; column++) {
            if (state.wall.heights[placeOf(side, column)] >= n) {
                found++;
            }
        }
        return found;
    }

    public int rise(int side, int column, int n) {
        if (!hasColumn(side, column) || n < 0 || n > MOST_HIGH) {
            return UNKNOWN;
        }
        if (n > state.town.high) {
            return NONE;
        }
        int own = n - state.wall.heights[placeOf(side, column)];
        if (own <= 0) {
            return 0;
        }
        return own + supports(side, column, -1, n) + supports(side, column, 1, n);
    }

    public long mean(int side) {
        if (!hasSide(side)) {
            return UNKNOWN;
        }
        winds.blow(state);
        return winds.counted[side] / 1000000000L;
    }

    public int storm(int seed) {
        if (!hasTown() || !isSeed(seed)) {
            return UNKNOWN;
        }
        state.drawn = seed;
        return state.blowOff();
    }

    public int run(int seed, int n) {
        if (!hasTown() || !isSeed(seed) || n < 1 || n > 30) {
            return UNKNOWN;
        }
        return state.year + n > MOST_YEARS ? USED_UP : state.goThrough(seed, n);
    }

    public int runs(int seed, int many, int n, int what) {
        if (!hasTown() || !isSeed(seed) || many < 1 || many > 20 || n < 1 || n > 30) {
            return UNKNOWN;
        }
        if (what < 0 || what > 2) {
            return UNKNOWN;
        }
        if (state.year + n > MOST_YEARS) {
            return USED_UP;
        }
        int total = 0;
        for (int i = 0; i < many; i++) {
            thought.become(state);
            thought.goThrough((long) seed + i, n);
            total += what == 2 ? thought.wall.stonesLying() : thought.last == what ? 1 : 0;
        }
        return total;
    }

    public int rule(int rule) {
        if (!hasTown() || rule < MORE || rule > HIGHER) {
            return UNKNOWN;
        }
        int old = state.rule;
        state.rule = rule;
        return old;
    }

    public int suits(int side) {
        if (!hasSide(side)) {
            return UNKNOWN;
        }
        for (int rule = MORE; rule <= HIGHER; rule++) {
            if (state.leader(rule) == side) {
                return rule;
            }
        }
        return NONE;
    }

    public int judge(int slot) {
        if (!hasTown() || !isSlot(slot)) {
            return UNKNOWN;
        }
        return slots[slot].isVoid() ? VOID : layInThought(slots[slot]);
    }

    public int then(int slot) {
        if (!hasTown() || !isSlot(slot)) {
            return UNKNOWN;
        }
        if (slots[slot].isVoid()) {
            return VOID;
        }
        layInThought(slots[slot]);
        return thought.leader(thought.rule);
    }

    public int count(int what) {
        switch (what) {
            case 0: return state.town.wide;
            case 1: return state.town.high;
            case 2: return state.town.bond;
            case 3: return state.town.sorts;
            case 4: return state.town.voters;
            case 5: return state.year;
            case 6: return state.last;
            case 7: return state.town.lines;
            case 8: return tape.size;
            case 9: return state.rule;
            case 10: return state.town.odds;
            case 11: return state.votersNow();
            case 12: return slotsWithRows();
            default: return NONE;
        }
    }

    public int keep(int k) {
        if (k < 0 || k >= kept.length) {
            return UNKNOWN;
        }
        images[k].become(state);
        kept[k] = true;
        return 0;
    }

    public int back(int k) {
        if (k < 0 || k >= kept.length) {
            return UNKNOWN;
        }
        if (!kept[k]) {
            return VOID;
        }
        state.become(images[k]);
        return 0;
    }

    public int row(int slot, int width, int n) {
        if (!isSlot(slot) || width < 0 || width > 3 || n > MOST_NUMBERS) {
            return UNKNOWN;
        }
        if (n < 0) {
            return USED_UP;
        }
        slots[slot].begin(width, n);
        return 0;
    }

    public int write(int slot, int i, long v) {
        if (!isSlot(slot)) {
            return UNKNOWN;
        }
        Slot target = slots[slot];
        if (target.isVoid()) {
            return VOID;
        }
        if (i < 0 || i >= target.size) {
            return BEYOND;
        }
        target.numbers[i] = target.cut(v);
        return 0;
    }

    public int paste(int slot, int i, int to, int k, int n) {
        if (!isSlot(slot) || !isSlot(to)) {
            return UNKNOWN;
        }
        Slot source = slots[slot];
        Slot target = slots[to];
        if (source.isVoid() || target.isVoid()) {
            return VOID;
        }
        if (source.width != target.width) {
            return UNLIKE;
        }
        if (!source.holds(i, n) || !target.holds(k, n)) {
            return BEYOND;
        }
        System.arraycopy(source.numbers, i, target.numbers, k, n);
        return 0;
    }

    private static State freshState() {
        Town town = new Town();
        return new State(town, new Wall(town));
    }

    private static int placeOf(int side, int column) {
        return side * MOST_WIDE + column;
    }

    private static int indexOf(int place, int z) {
        return place * MOST_HIGH + z;
    }

    private static boolean isSeed(int seed) {
        return seed >= 0 && seed <= MOST_SEED;
    }

    private boolean isSlot(int slot) {
        return slot >= 0 && slot < slots.length;
    }

    /** A TOWN without a LINE has no WALL, and counts as none. */
    private boolean hasTown() {
        return state.town.wide > 0;
    }

    private boolean hasSide(int side) {
        return hasTown() && (side == EAST || side == WEST);
    }

    private boolean hasColumn(int side, int column) {
        return hasSide(side) && column >= 0 && column < state.town.wide;
    }

    private boolean hasSort(int sort) {
        return sort >= 0 && sort < state.town.sorts;
    }

    private boolean hasVoter(int voter) {
        return voter >= 0 && voter < state.town.voters;
    }

    private boolean hasSet(int set) {
        return hasTown() && set >= 0 && set < 1 << state.town.voters;
    }

    private boolean hadElection(int year) {
        return year >= 0 && year < state.year;
    }

    private boolean isOver() {
        return state.year >= MOST_YEARS;
    }

    /** STONES for the COLUMNS on one hand of a COLUMN, so that bond lets it have n. */
    private int supports(int side, int column, int step, int n) {
        int needed = 0;
        int due = n - state.town.bond;
        for (int c = column + step; c >= 0 && c < state.town.wide; c += step) {
            int lacking = due - state.wall.heights[placeOf(side, c)];
            // a COLUMN that is high enough already asks nothing of those behind it
            if (lacking <= 0) {
                break;
            }
            needed += lacking;
            due -= state.town.bond;
        }
        return needed;
    }

    private int layInThought(Slot slot) {
        thought.become(state);
        for (int i = 0; i < slot.size; i++) {
            if (!layNumber(slot.numbers[i])) {
                return i;
            }
        }
        return slot.size;
    }

    private boolean layNumber(long number) {
        if (number < 0 || number >= 2000) {
            return false;
        }
        int code = (int) number;
        int side = code / 1000;
        int column = code % 1000 / 10;
        int sort = code % 10;
        if (!hasColumn(side, column) || !hasSort(sort)) {
            return false;
        }
        int place = placeOf(side, column);
        if (!thought.wall.canTake(place, sort)) {
            return false;
        }
        thought.wall.put(place, sort, NONE, thought.year);
        return true;
    }

    private int slotsWithRows() {
        int found = 0;
        for (Slot slot : slots) {
            if (!slot.isVoid()) {
                found++;
            }
        }
        return found;
    }

    /** The bytes that came by feed() and are no TOWN yet. */
    private static final class Tape {
        final byte[] bytes = new byte[MOST_BYTES];
        int size;

        /** The caller has looked whether there is room. */
        void append(int number) {
            for (int shift = 24; shift >= 0 && size < MOST_BYTES; shift -= 8) {
                bytes[size] = (byte) (number >> shift);
                size++;
            }
        }
    }

    /** A TOWN as its LINES tell it; wide is 0 while there is none. */
    private static final class Town {
        int lines;
        int wide;
        int high;
        int bond;
        int sorts;
        int voters;
        int firstRule;
        int odds;
        int mason;
        final int[] weight = new int[MOST_SORTS];
        final int[] bears = new int[MOST_SORTS];
        final int[] many = new int[MOST_SORTS];
        final int[] wants = new int[MOST_VOTERS];
        final int[] places = new int[MOST_VOTERS];
        final int[] loads = new int[MOST_VOTERS];
        final int[] carries = new int[MOST_VOTERS];
        final int[] far = new int[MOST_VOTERS];
        final int[] from = new int[MOST_VOTERS];
        final int[] until = new int[MOST_VOTERS];

        void clear() {
            lines = 0;
            wide = 0;
            high = 0;
            bond = 0;
            sorts = 0;
            voters = 0;
            firstRule = MORE;
            odds = 0;
            mason = 0;
        }

        void become(Town other) {
            lines = other.lines;
            wide = other.wide;
            high = other.high;
            bond = other.bond;
            sorts = other.sorts;
            voters = other.voters;
            firstRule = other.firstRule;
            odds = other.odds;
            mason = other.mason;
            System.arraycopy(other.weight, 0, weight, 0, MOST_SORTS);
            System.arraycopy(other.bears, 0, bears, 0, MOST_SORTS);
            System.arraycopy(other.many, 0, many, 0, MOST_SORTS);
            System.arraycopy(other.wants, 0, wants, 0, MOST_VOTERS);
            System.arraycopy(other.places, 0, places, 0, MOST_VOTERS);
            System.arraycopy(other.loads, 0, loads, 0, MOST_VOTERS);
            System.arraycopy(other.carries, 0, carries, 0, MOST_VOTERS);
            System.arraycopy(other.far, 0, far, 0, MOST_VOTERS);
            System.arraycopy(other.from, 0, from, 0, MOST_VOTERS);
            System.arraycopy(other.until, 0, until, 0, MOST_VOTERS);
        }
    }

    /**
     * Reads a TAPE into a draft, so that a FAULT leaves the TOWN as it is. The first FAULT stays
     * whatever comes behind it, so a LINE is read to its end without looking for one.
     */
    private static final class Reader {
        final Town draft = new Town();
        int kind;
        int place = NONE;
        private byte[] bytes = new byte[0];
        private int size;
        private int start;
        private int stop;
        private boolean ruleTold;
        private boolean stormTold;
        private boolean masonTold;

        boolean reads(Tape tape) {
            begin(tape);
            if (start < size) {
                readWall();
                finishLine();
            }
            // a LINE has some bytes, so there are fewer LINES than bytes
            for (int i = 0; i < MOST_BYTES && kind == 0 && start < size; i++) {
                if (is("sort")) {
                    readSort();
                } else if (is("voter")) {
                    readVoter();
                } else if (is("rule")) {
                    readRule();
                } else if (is("storm")) {
                    refuseIf(stormTold, 2);
                    stormTold = true;
                    draft.odds = named("storm", 0, 100);
                } else {
                    // the one word that is left; named() refuses any other
                    refuseIf(masonTold && is("mason"), 2);
                    masonTold = true;
                    draft.mason = named("mason", 0, 99);
                }
                finishLine();
            }
            return kind == 0;
        }

        private void begin(Tape tape) {
            draft.clear();
            kind = 0;
            place = NONE;
            bytes = tape.bytes;
            size = tape.size;
            stop = 0;
            ruleTold = false;
            stormTold = false;
            masonTold = false;
            advance();
        }

        private void finishLine() {
            expect(";");
            draft.lines++;
        }

        private void readWall() {
            expect("wall");
            draft.wide = named("wide", 1, MOST_WIDE);
            draft.high = named("high", 1, MOST_HIGH);
            draft.bond = named("bond", 1, 12);
        }

        private void readSort() {
            int sort = draft.sorts;
            if (sort >= MOST_SORTS) {
                refuseIf(true, 3);
                return;
            }
            expect("sort");
            draft.weight[sort] = named("weight", 1, 9);
            draft.bears[sort] = named("bears", 0, 99);
            draft.many[sort] = named("many", 0, 60);
            draft.sorts++;
        }

        private void readVoter() {
            int voter = draft.voters;
            if (voter >= MOST_VOTERS) {
                refuseIf(true, 3);
                return;
            }
            expect("voter");
            draft.wants[voter] = readWants();
            draft.places[voter] = readPlaces();
            draft.loads[voter] = is("heavy") ? HEAVY : LIGHT;
            expect(draft.loads[voter] == HEAVY ? "heavy" : "light");
            draft.carries[voter] = named("carries", 1, 9);
            draft.far[voter] = named("far", 0, 99);
            draft.from[voter] = is("from") ? named("from", 0, 99) : 0;
            draft.until[voter] = is("to") ? named("to", draft.from[voter], 99) : 99;
            draft.voters++;
        }

        private int readWants() {
            int wants = EAST;
            if (is("west")) {
                wants = WEST;
            } else if (is("winner")) {
                wants = WANTS_WINNER;
            } else if (is("loser")) {
                wants = WANTS_LOSER;
            } else {
                refuseIf(!is("east"), 1);
            }
            advance();
            return wants;
        }

        private int readPlaces() {
            if (is("near")) {
                return named("near", 0, draft.wide - 1);
            }
            int places = is("high") ? HIGH : LOW;
            expect(places == HIGH ? "high" : "low");
            return places;
        }

        private void readRule() {
            refuseIf(ruleTold, 2);
            ruleTold = true;
            expect("rule");
            if (is("heavier")) {
                draft.firstRule = HEAVIER;
            } else if (is("higher")) {
                draft.firstRule = HIGHER;
            } else {
                refuseIf(!is("more"), 1);
            }
            advance();
        }

        private int named(String word, int least, int most) {
            refuseIf(!is(word), 1);
            advance();
            refuseIf(start >= size || !isDigit(bytes[start]), 1);
            if (kind != 0) {
                return 0;
            }
            int value = 0;
            for (int i = start; i < stop; i++) {
                // held at 1,000, which is out of all bounds, so that long numbers don't run over
                value = Math.min(1000, value * 10 + (bytes[i] - '0'));
            }
            refuseIf(value < least || value > most, 2);
            advance();
            return value;
        }

        private void expect(String token) {
            refuseIf(!is(token), 1);
            advance();
        }

        private void refuseIf(boolean wrong, int fault) {
            if (wrong && kind == 0) {
                kind = fault;
                place = start;
            }
        }

        private boolean is(String token) {
            if (stop - start != token.length()) {
                return false;
            }
            for (int i = 0; i < token.length(); i++) {
                if (bytes[start + i] != token.charAt(i)) {
                    return false;
                }
            }
            return true;
        }

        private void advance() {
            start = stop;
            while (start < size && isBlank(bytes[start])) {
                start++;
            }
            stop = start;
            if (start >= size) {
                return;
            }
            stop++;
            if (isLetter(bytes[start])) {
                while (stop < size && isLetter(bytes[stop])) {
                    stop++;
                }
            } else if (isDigit(bytes[start])) {
                while (stop < size && isDigit(bytes[stop])) {
                    stop++;
                }
            }
        }

        private static boolean isBlank(byte b) {
            return b == 32 || b == 10;
        }

        private static boolean isLetter(byte b) {
            return b >= 'a' && b <= 'z';
        }

        private static boolean isDigit(byte b) {
            return b >= '0' && b <= '9';
        }
    }

    /** The STONES of both SIDES and the PILE. A place is a COLUMN of a SIDE (placeOf). */
    private static final class Wall {
        /** More than all STONES weigh together: what an empty COLUMN bears. */
        private static final int BOUNDLESS = 100000;
        private static final int LEVELS = MOST_HIGH + 1;

        private final Town town;
        final int[] heights = new int[PLACES];
        final int[] pile = new int[MOST_SORTS];
        final int[] sorts = new int[PLACES * MOST_HIGH];
        final int[] hands = new int[PLACES * MOST_HIGH];
        final int[] years = new int[PLACES * MOST_HIGH];
        private final int[] stones = new int[2];
        private final int[] weights = new int[2];
        /** What a COLUMN could bear on top at each of its heights, so that removing needs no sums. */
        private final int[] room = new int[PLACES * LEVELS];

        Wall(Town town) {
            this.town = town;
        }

        void clear() {
            Arrays.fill(heights, 0);
            Arrays.fill(stones, 0);
            Arrays.fill(weights, 0);
            for (int place = 0; place < PLACES; place++) {
                room[place * LEVELS] = BOUNDLESS;
            }
            System.arraycopy(town.many, 0, pile, 0, MOST_SORTS);
        }

        void become(Wall other) {
            System.arraycopy(other.heights, 0, heights, 0, heights.length);
            System.arraycopy(other.pile, 0, pile, 0, pile.length);
            System.arraycopy(other.sorts, 0, sorts, 0, sorts.length);
            System.arraycopy(other.hands, 0, hands, 0, hands.length);
            System.arraycopy(other.years, 0, years, 0, years.length);
            System.arraycopy(other.stones, 0, stones, 0, stones.length);
            System.arraycopy(other.weights, 0, weights, 0, weights.length);
            System.arraycopy(other.room, 0, room, 0, room.length);
        }

        int roomOn(int place) {
            return room[place * LEVELS + heights[place]];
        }

        boolean fits(int place, int weight) {
            int height = heights[place];
            if (height >= town.high || weight > room[place * LEVELS + height]) {
                return false;
            }
            int column = place % MOST_WIDE;
            int least = height + 1 - town.bond;
            if (column > 0 && heights[place - 1] < least) {
                return false;
            }
            return column + 1 >= town.wide || heights[place + 1] >= least;
        }

        /** Whether there is a STONE of a SORT on the PILE that fits. */
        boolean canTake(int place, int sort) {
            return pile[sort] > 0 && fits(place, town.weight[sort]);
        }

        /** Lays a STONE that fits: how high its COLUMN is then. */
        int put(int place, int sort, int hand, int year) {
            int height = heights[place];
            int index = indexOf(place, height);
            sorts[index] = sort;
            hands[index] = hand;
            years[index] = year;
            room[place * LEVELS + height + 1] =
                    Math.min(roomOn(place) - town.weight[sort], town.bears[sort]);
            heights[place] = height + 1;
            stones[place / MOST_WIDE]++;
            weights[place / MOST_WIDE] += town.weight[sort];
            pile[sort]--;
            return height + 1;
        }

        /** Takes the highest STONE of a COLUMN that has one: its SORT. */
        int remove(int place) {
            heights[place]--;
            int sort = sorts[indexOf(place, heights[place])];
            stones[place / MOST_WIDE]--;
            weights[place / MOST_WIDE] -= town.weight[sort];
            pile[sort]++;
            return sort;
        }

        int tally(int side, int rule) {
            switch (rule) {
                case HEAVIER: return weights[side];
                case HIGHER: return tallest(side);
                default: return stones[side];
            }
        }

        private int tallest(int side) {
            int most = 0;
            for (int column = 0; column < town.wide; column++) {
                most = Math.max(most, heights[placeOf(side, column)]);
            }
            return most;
        }

        int stonesLying() {
            return stones[EAST] + stones[WEST];
        }

        int weightOf(int place, int z) {
            return town.weight[sorts[indexOf(place, z)]];
        }

        int weightFrom(int place, int z) {
            int weight = 0;
            for (int i = z; i < heights[place]; i++) {
                weight += weightOf(place, i);
            }
            return weight;
        }

        int openJoints(int side) {
            int open = 0;
            for (int column = 1; column < town.wide; column++) {
                int place = placeOf(side, column);
                if (Math.abs(heights[place] - heights[place - 1]) > town.bond) {
                    open++;
                }
            }
            return open;
        }

        /** The COLUMN that PLACES choose of those on which so much weight may be laid. */
        int chooseColumn(int side, int weight, int places) {
            int best = NONE;
            int least = 0;
            for (int column = 0; column < town.wide; column++) {
                int place = placeOf(side, column);
                int grade = grade(places, column, heights[place]);
                if ((best == NONE || grade < least) && fits(place, weight)) {
                    best = column;
                    least = grade;
                }
            }
            return best;
        }

        private static int grade(int places, int column, int height) {
            switch (places) {
                case LOW: return height;
                case HIGH: return -height;
                default: return Math.abs(column - places);
            }
        }

        int stonesBy(int side, int voter) {
            int found = 0;
            for (int column = 0; column < town.wide; column++) {
                int place = placeOf(side, column);
                for (int z = 0; z < heights[place]; z++) {
                    if (hands[indexOf(place, z)] == voter) {
                        found++;
                    }
                }
            }
            return found;
        }

        int votesLying(int side, int year) {
            int found = 0;
            for (int column = 0; column < town.wide; column++) {
                int place = placeOf(side, column);
                for (int z = 0; z < heights[place]; z++) {
                    int index = indexOf(place, z);
                    if (hands[index] != NONE && years[index] == year) {
                        found++;
                    }
                }
            }
            return found;
        }

        int earliestVote(int side) {
            int earliest = NONE;
            for (int column = 0; column < town.wide; column++) {
                int place = placeOf(side, column);
                for (int z = 0; z < heights[place]; z++) {
                    int index = indexOf(place, z);
                    if (hands[index] != NONE && (earliest == NONE || years[index] < earliest)) {
                        earliest = years[index];
                    }
                }
            }
            return earliest;
        }
    }

    /** All that an IMAGE keeps: TOWN, WALL, PILE, YEAR, rule, what was WON and voted. */
    private static final class State {
        final Town town;
        final Wall wall;
        int year;
        int rule;
        int last = NOBODY;
        long drawn;
        private int votesCast;
        final int[] winners = new int[MOST_YEARS];
        final int[] ballots = new int[2 * MOST_YEARS];

        State(Town town, Wall wall) {
            this.town = town;
            this.wall = wall;
        }

        void found(Town draft) {
            town.become(draft);
            wall.clear();
            year = 0;
            rule = town.firstRule;
            last = NOBODY;
            votesCast = 0;
            Arrays.fill(ballots, 0);
        }

        void become(State other) {
            town.become(other.town);
            wall.become(other.wall);
            year = other.year;
            rule = other.rule;
            last = other.last;
            votesCast = other.votesCast;
            System.arraycopy(other.winners, 0, winners, 0, winners.length);
            System.arraycopy(other.ballots, 0, ballots, 0, ballots.length);
        }

        int leader(int byRule) {
            int east = wall.tally(EAST, byRule);
            int west = wall.tally(WEST, byRule);
            if (east == west) {
                return NOBODY;
            }
            return east > west ? EAST : WEST;
        }

        boolean mayVote(int voter) {
            return year >= town.from[voter] && year <= town.until[voter];
        }

        int votersNow() {
            int set = 0;
            for (int voter = 0; voter < town.voters; voter++) {
                if (mayVote(voter)) {
                    set |= 1 << voter;
                }
            }
            return set;
        }

        int sideOf(int voter) {
            switch (town.wants[voter]) {
                case WANTS_WINNER: return last == WEST ? WEST : EAST;
                case WANTS_LOSER: return last == WEST ? EAST : WEST;
                default: return town.wants[voter];
            }
        }

        int sortOf(int voter) {
            int best = NONE;
            for (int sort = 0; sort < town.sorts; sort++) {
                boolean his = wall.pile[sort] > 0 && town.weight[sort] <= town.carries[voter];
                if (his && (best == NONE || suitsBetter(voter, sort, best))) {
                    best = sort;
                }
            }
            return best;
        }

        private boolean suitsBetter(int voter, int sort, int than) {
            int difference = town.weight[sort] - town.weight[than];
            return town.loads[voter] == HEAVY ? difference > 0 : difference < 0;
        }

        /** The COLUMN for a SORT that he has, or NONE if he has none. */
        int columnOf(int voter, int sort) {
            if (sort == NONE) {
                return NONE;
            }
            return wall.chooseColumn(sideOf(voter), town.weight[sort], town.places[voter]);
        }

        /** A voter votes, if he may and can: the place where he laid his STONE, or NONE. */
        int cast(int voter) {
            if (!mayVote(voter) || year >= MOST_YEARS) {
                return NONE;
            }
            int sort = sortOf(voter);
            int column = columnOf(voter, sort);
            if (column == NONE) {
                return NONE;
            }
            int side = sideOf(voter);
            int place = placeOf(side, column);
            wall.put(place, sort, voter, year);
            ballots[2 * year + side]++;
            votesCast++;
            return place;
        }

        int votesLost() {
            int lying = 0;
            for (int voter = 0; voter < town.voters; voter++) {
                lying += wall.stonesBy(EAST, voter) + wall.stonesBy(WEST, voter);
            }
            return votesCast - lying;
        }

        /** The caller has looked whether there is a YEAR left. */
        int elect(int set) {
            for (int voter = 0; voter < town.voters; voter++) {
                if ((set >> voter & 1) == 1) {
                    cast(voter);
                }
            }
            int leader = leader(rule);
            last = leader == NOBODY ? last : leader;
            if (year < MOST_YEARS) {
                winners[year] = last;
                year++;
            }
            return last;
        }

        private int draw() {
            drawn = (1103515245L * drawn + 12345L) % 2147483648L;
            return (int) (drawn / 65536L % 100L);
        }

        /** A STORM that goes on with the draws: how many STONES fell. */
        int blowOff() {
            int fell = 0;
            for (int place = 0; place < PLACES; place++) {
                if (wall.heights[place] > 0 && draw() < town.odds) {
                    wall.remove(place);
                    fell++;
                }
            }
            return fell;
        }

        /** So many YEARS from a seed: how many ELECTIONS east WON. */
        int goThrough(long seed, int many) {
            drawn = seed;
            int wins = 0;
            for (int i = 0; i < many; i++) {
                blowOff();
                if (elect((1 << town.voters) - 1) == EAST) {
                    wins++;
                }
            }
            return wins;
        }
    }

    /** What each set of voters that comes makes of an ELECTION. */
    private static final class Turnouts {
        /** By how much COUNT of east is above that of west. */
        private final int[] leads = new int[MOST_SETS];
        private final int[] distances = new int[MOST_SETS];
        private int voters;
        private int sets;
        private int last;

        void tabulate(State state, State thought) {
            thought.become(state);
            voters = state.town.voters;
            sets = 1 << voters;
            last = state.last;
            branch(thought, 0, 0, 0);
        }

        /** Voters vote by number, so sets that begin alike share what their first voters laid. */
        private void branch(State thought, int voter, int set, int far) {
            if (voter >= voters) {
                leads[set] = thought.wall.tally(EAST, thought.rule)
                        - thought.wall.tally(WEST, thought.rule);
                distances[set] = far;
                return;
            }
            branch(thought, voter + 1, set, far);
            int place = thought.cast(voter);
            branch(thought, voter + 1, set | 1 << voter, far + thought.town.far[voter]);
            if (place != NONE) {
                thought.wall.remove(place);
            }
        }

        private int winnerBy(int set) {
            if (leads[set] == 0) {
                return last;
            }
            return leads[set] > 0 ? EAST : WEST;
        }

        /** The set of voters who turn it by staying away, or NONE. */
        int fewestAway() {
            int all = sets - 1;
            int best = NONE;
            for (int away = 1; away < sets; away++) {
                boolean fewer = best == NONE || Integer.bitCount(away) < Integer.bitCount(best);
                if (fewer && winnerBy(all & ~away) != winnerBy(all)) {
                    best = away;
                }
            }
            return best;
        }

        int ahead(int set, int side) {
            return side == EAST ? leads[set] : -leads[set];
        }

        /** The empty set is far 0, so there is always one within the budget. */
        int farthestAhead(int side, int budget) {
            int best = 0;
            for (int set = 1; set < sets; set++) {
                int more = ahead(set, side) - ahead(best, side);
                boolean better = more > 0 || more == 0 && distances[set] < distances[best];
                if (distances[set] <= budget && better) {
                    best = set;
                }
            }
            return best;
        }

        int leastFar(int side) {
            int least = NONE;
            for (int set = 0; set < sets; set++) {
                boolean nearer = least == NONE || distances[set] < least;
                if (nearer && ahead(set, side) > 0) {
                    least = distances[set];
                }
            }
            return least;
        }

        int turnedBy(int voter) {
            int found = 0;
            for (int set = 0; set < sets; set++) {
                boolean without = (set >> voter & 1) == 0;
                if (without && winnerBy(set) != winnerBy(set | 1 << voter)) {
                    found++;
                }
            }
            return found;
        }
    }

    /** Looks for rows of at most three STONES by which a SIDE leads, in a thought of its own. */
    private static final class Masons {
        int firstLaid;
        private int leastWeight;

        /** How many STONES, firstLaid being the first of them; -3: three do not. */
        int fewestToLead(State thought, int side) {
            for (int many = 0; many <= MOST_TURNED; many++) {
                if (leadsBy(thought, side, many)) {
                    return many;
                }
            }
            return USED_UP;
        }

        /** Rows by their numbers; the last one to note its STONE is the first of the row. */
        private boolean leadsBy(State thought, int side, int many) {
            if (many <= 0) {
                return lead(thought, side) > 0;
            }
            if (lead(thought, side) + many * mostGain(thought) <= 0) {
                return false;
            }
            for (int column = 0; column < thought.town.wide; column++) {
                int place = placeOf(side, column);
                for (int sort = 0; sort < thought.town.sorts; sort++) {
                    if (!thought.wall.canTake(place, sort)) {
                        continue;
                    }
                    thought.wall.put(place, sort, NONE, thought.year);
                    boolean found = leadsBy(thought, side, many - 1);
                    thought.wall.remove(place);
                    if (found) {
                        firstLaid = 10 * column + sort;
                        return true;
                    }
                }
            }
            return false;
        }

        /** The least weight of such a row; -3: three do not. */
        int leastWeightToLead(State thought, int side) {
            leastWeight = USED_UP;
            lighten(thought, side, MOST_TURNED, 0);
            return leastWeight;
        }

        private void lighten(State thought, int side, int left, int weight) {
            int lead = lead(thought, side);
            if (lead > 0) {
                leastWeight = weight;
                return;
            }
            if (left <= 0 || lead + left * mostGain(thought) <= 0) {
                return;
            }
            for (int column = 0; column < thought.town.wide; column++) {
                int place = placeOf(side, column);
                for (int sort = 0; sort < thought.town.sorts; sort++) {
                    int more = weight + thought.town.weight[sort];
                    boolean lighter = leastWeight == USED_UP || more < leastWeight;
                    if (lighter && thought.wall.canTake(place, sort)) {
                        thought.wall.put(place, sort, NONE, thought.year);
                        lighten(thought, side, left - 1, more);
                        thought.wall.remove(place);
                    }
                }
            }
        }

        private static int lead(State thought, int side) {
            return thought.wall.tally(side, thought.rule)
                    - thought.wall.tally(1 - side, thought.rule);
        }

        /** No STONE adds more to COUNT than this, so rows that can't do are left early. */
        private static int mostGain(State thought) {
            int most = 1;
            if (thought.rule == HEAVIER) {
                for (int sort = 0; sort < thought.town.sorts; sort++) {
                    if (thought.wall.pile[sort] > 0) {
                        most = Math.max(most, thought.town.weight[sort]);
                    }
                }
            }
            return most;
        }
    }

    /** How many STONES are to be torn down. */
    private static final class Wreckers {
        /** The most weight that so many STONES of the COLUMNS looked at so far have. */
        private final int[] torn = new int[MOST_STONES + 1];

        int fewestTorn(State state, int side) {
            int own = state.wall.tally(side, state.rule);
            int others = state.wall.tally(1 - side, state.rule);
            if (own > others) {
                return 0;
            }
            if (own <= 0) {
                return NONE;
            }
            switch (state.rule) {
                case HEAVIER: return fewestOfWeight(state, 1 - side, others - own + 1);
                case HIGHER: return stonesAbove(state, 1 - side, own - 1);
                default: return others - own + 1;
            }
        }

        private int stonesAbove(State state, int side, int height) {
            int found = 0;
            for (int column = 0; column < state.town.wide; column++) {
                found += Math.max(0, state.wall.heights[placeOf(side, column)] - height);
            }
            return found;
        }

        private int fewestOfWeight(State state, int side, int weight) {
            Arrays.fill(torn, 0);
            for (int column = 0; column < state.town.wide; column++) {
                addColumn(state.wall, placeOf(side, column));
            }
            for (int many = 1; many <= MOST_STONES; many++) {
                if (torn[many] >= weight) {
                    return many;
                }
            }
            return NONE;
        }

        private void addColumn(Wall wall, int place) {
            int height = wall.heights[place];
            for (int many = MOST_STONES; many > 0; many--) {
                int weight = 0;
                for (int top = 1; top <= height && top <= many; top++) {
                    weight += wall.weightOf(place, height - top);
                    torn[many] = Math.max(torn[many], torn[many - top] + weight);
                }
            }
        }
    }

    /** The PARTS of a GALE. */
    private static final class Winds {
        private static final long ALL_PARTS = 1000000000000L;

        final long[] led = new long[3];
        final long[] fallen = new long[PLACES + 1];
        /** PARTS times COUNT, all together. */
        final long[] counted = new long[2];
        private final int[] standing = new int[PLACES];
        private final int[] broken = new int[PLACES];
        private int eastColumns;
        private int columns = NONE;
        private int odds;
        private int byHighest;
        private boolean changed;

        /** The PARTS stay as they are while what they come from does. */
        void blow(State state) {
            changed = false;
            int column = listColumns(state, EAST, 0);
            odds = noted(odds, state.town.odds);
            byHighest = noted(byHighest, state.rule == HIGHER ? 1 : 0);
            eastColumns = noted(eastColumns, column);
            columns = noted(columns, listColumns(state, WEST, column));
            if (changed) {
                Arrays.fill(led, 0L);
                Arrays.fill(fallen, 0L);
                Arrays.fill(counted, 0L);
                spread(0, ALL_PARTS, 0, 0, 0);
            }
        }

        private int noted(int old, int now) {
            changed = changed || old != now;
            return now;
        }

        /** What each COLUMN that has STONES adds to COUNT with its highest one, and without. */
        private int listColumns(State state, int side, int first) {
            boolean weighed = state.rule == HEAVIER;
            int next = first;
            for (int column = 0; column < state.town.wide; column++) {
                int place = placeOf(side, column);
                int height = state.wall.heights[place];
                if (height > 0) {
                    int all = weighed ? state.wall.weightFrom(place, 0) : height;
                    int top = weighed ? state.wall.weightOf(place, height - 1) : 1;
                    standing[next] = noted(standing[next], all);
                    broken[next] = noted(broken[next], all - top);
                    next++;
                }
            }
            return next;
        }

        private void spread(int i, long parts, int fell, int east, int west) {
            if (parts <= 0) {
                return;
            }
            if (i >= columns) {
                settle(parts, fell, east, west);
                return;
            }
            long down = parts * odds / 100;
            if (i < eastColumns) {
                spread(i + 1, down, fell + 1, joined(east, broken[i]), west);
                spread(i + 1, parts - down, fell, joined(east, standing[i]), west);
            } else {
                spread(i + 1, down, fell + 1, east, joined(west, broken[i]));
                spread(i + 1, parts - down, fell, east, joined(west, standing[i]));
            }
        }

        private int joined(int sum, int column) {
            return byHighest == 1 ? Math.max(sum, column) : sum + column;
        }

        private void settle(long parts, int fell, int east, int west) {
            int leader = east == west ? NOBODY : east > west ? EAST : WEST;
            led[leader] += parts;
            fallen[fell] += parts;
            counted[EAST] += parts * east;
            counted[WEST] += parts * west;
        }
    }

    /** A SLOT; its size is NONE while it has nothing. */
    private static final class Slot {
        final long[] numbers = new long[MOST_NUMBERS];
        int width;
        int size = NONE;

        boolean isVoid() {
            return size == NONE;
        }

        void begin(int ofWidth, int n) {
            width = ofWidth;
            size = n;
            Arrays.fill(numbers, 0L);
        }

        long cut(long v) {
            switch (width) {
                case 0: return (byte) v;
                case 1: return (short) v;
                case 2: return (int) v;
                default: return v;
            }
        }

        /** Whether n numbers from i on lie in the row. */
        boolean holds(int i, int n) {
            return i >= 0 && n >= 0 && n <= size && i <= size - n;
        }
    }
}
