import java.util.Arrays;

/** Blocks of routines laid in one row of bytes, run as blocks and as bytes, and put in orders of least cost. */
public final class FallRows {
    public static final int BAD = -1, STATE = -2, FULL = -3, NONE = -9;
    public static final int BACK = 0, TRAP = 1, DEEP = 2, LONG = 3;

    private static final int ROUTINES_MOST = 6, OWN_MOST = 9, BLOCKS_MOST = 40, WAYS_MOST = 4;
    private static final int SIZE_MOST = 200, COUNT_MOST = 1000000, TAPE_MOST = 200;
    private static final int PASSED_MOST = 200, OPEN_MOST = 8, KEPT_MOST = 12, PAGES_MOST = 8;
    private static final int END_BACK = 0, END_TRAP = 1, GO = 2, TEST = 3, TABLE = 4, CALL = 5, GUARDED = 6;
    private static final int PLAIN = 0, LAID = 1;
    private static final int ALIGN_MOST = 16, PAGE_BYTES = 64, FAILS = 255;
    /** Inside the class: no BLOCK, no place. */
    private static final int NOWHERE = -1;

    private final Program program;
    private final Orders orders;
    private final Costs costs;
    private final BestSearch bestSearch;
    private final LocalSearch localSearch;
    private final ChainSearch chainSearch;
    private final Layout layout;
    private final Picture picture;
    private final Tape tape;
    private final Runner runner;
    private final Trace plainTrace;
    private final Trace laidTrace;
    private final Trace sparePlain;
    private final Trace spareLaid;
    private final int[] offered;
    private final int[] ranks;
    private int pagesKept;
    private boolean learnable;

    public FallRows() {
        program = new Program();
        orders = new Orders(program);
        costs = new Costs(program);
        bestSearch = new BestSearch(costs);
        localSearch = new LocalSearch(costs);
        chainSearch = new ChainSearch(program);
        layout = new Layout(program, orders);
        picture = new Picture(program, layout);
        tape = new Tape();
        runner = new Runner(program, layout, picture, tape);
        plainTrace = new Trace();
        laidTrace = new Trace();
        sparePlain = new Trace();
        spareLaid = new Trace();
        offered = new int[WAYS_MOST];
        ranks = new int[OWN_MOST];
        pagesKept = 4;
        learnable = false;
    }

    // ---- routines, blocks

    public int routine() {
        if (program.routineCount >= ROUTINES_MOST) {
            return FULL;
        }
        return program.addRoutine();
    }

    public int block(int routine, int size) {
        if (!program.isRoutine(routine) || size < 1 || size > SIZE_MOST) {
            return BAD;
        }
        if (program.ownCount[routine] >= OWN_MOST || program.blockCount >= BLOCKS_MOST) {
            return FULL;
        }
        int block = program.addBlock(routine, size);
        orders.append(block);
        orders.forget();
        learnable = false;
        layout.disturb();
        return block;
    }

    public int end(int block, int kind, int a, int b, int c, int d) {
        if (!program.isBlock(block) || kind < END_BACK || kind > GUARDED) {
            return BAD;
        }
        offered[0] = a;
        offered[1] = b;
        offered[2] = c;
        offered[3] = d;
        int n = waysOffered(kind);
        if (kind == TABLE && n == 0 || kind == CALL && !program.hasBlocks(b)) {
            return BAD;
        }
        for (int i = 0; i < n; i++) {
            if (!program.isBlockOf(program.routineOf[block], offered[i])) {
                return BAD;
            }
        }
        program.tellEnd(block, kind, offered, n);
        learnable = false;
        layout.disturb();
        return n;
    }

    public int count(int block, int way, int n) {
        if (!program.isBlock(block) || way < 0 || way >= program.wayCount[block] || n < 0 || n > COUNT_MOST) {
            return BAD;
        }
        int before = program.counts[block * WAYS_MOST + way];
        program.counts[block * WAYS_MOST + way] = n;
        return before;
    }

    public int cold(int block, boolean is) {
        if (!isMovable(block)) {
            return BAD;
        }
        int before = asNumber(program.isCold[block]);
        program.isCold[block] = is;
        layout.disturb();
        return before;
    }

    public int about(int block, int what) {
        if (!program.isBlock(block) || what < 0 || what > 14) {
            return BAD;
        }
        switch (what) {
            case 0:
                return program.routineOf[block];
            case 1:
                return program.size[block];
            case 2:
                return program.kind[block];
            case 3:
                return asNumber(program.isCold[block]);
            case 4:
                return orders.placeOf[block];
            case 5:
                return program.wayCount[block];
            case 14:
                return program.kind[block] == CALL ? program.called[block] : NONE;
            default:
                return aboutWay(block, what);
        }
    }

    private int aboutWay(int block, int what) {
        int way = (what - 6) % WAYS_MOST;
        if (way < 0 || way >= program.wayCount[block]) {
            return NONE;
        }
        return what < 10 ? program.wayOf(block, way) : program.countOf(block, way);
    }

    private int waysOffered(int kind) {
        if (kind == GO || kind == CALL) {
            return 1;
        }
        if (kind == TEST || kind == GUARDED) {
            return 2;
        }
        if (kind != TABLE) {
            return 0;
        }
        int n = 0;
        for (int i = 0; i < WAYS_MOST && offered[i] != -1; i++) {
            n++;
        }
        return n;
    }

    private boolean isMovable(int block) {
        return program.isBlock(block) && program.rank[block] > 0;
    }

    private static int asNumber(boolean is) {
        return is ? 1 : 0;
    }

    // ---- the layout

    public int move(int block, int place) {
        if (!isMovable(block) || place < 1 || place >= program.ownCount[program.routineOf[block]]) {
            return BAD;
        }
        orders.keep(program.routineOf[block]);
        int before = orders.placeOf[block];
        orders.shift(block, place);
        layout.disturb();
        return before;
    }

    public int swap(int block, int other) {
        if (!isMovable(block) || !isMovable(other) || program.routineOf[block] != program.routineOf[other]) {
            return BAD;
        }
        orders.keep(program.routineOf[block]);
        orders.exchange(block, other);
        layout.disturb();
        return 1;
    }

    public int order(int routine, int how) {
        if (!program.hasBlocks(routine) || how < 0 || how > 3) {
            return BAD;
        }
        orders.keep(routine);
        costs.load(routine);
        orders.readRanks(routine, ranks);
        if (how == 0) {
            for (int i = 0; i < costs.n; i++) {
                ranks[i] = i;
            }
        } else if (how == 1) {
            bestSearch.find(ranks);
        } else if (how == 2) {
            localSearch.improve(ranks);
        } else {
            chainSearch.find(routine, ranks);
        }
        orders.writeRanks(routine, ranks);
        layout.disturb();
        return costs.weigh(ranks);
    }

    public int undo() {
        if (orders.keptCount == 0) {
            return STATE;
        }
        orders.restore();
        layout.disturb();
        return orders.keptCount;
    }

    public int set(int what, int on) {
        if (what == 0 && (on == 0 || on == 1)) {
            int before = asNumber(layout.apart);
            layout.apart = on == 1;
            layout.disturb();
            return before;
        }
        if (what == 1 && on >= 1 && on <= ALIGN_MOST && Integer.bitCount(on) == 1) {
            int before = layout.align;
            layout.align = on;
            layout.disturb();
            return before;
        }
        if (what == 2 && on >= 0 && on <= PAGES_MOST) {
            int before = pagesKept;
            pagesKept = on;
            return before;
        }
        return BAD;
    }

    public int weight(int routine, int what) {
        if (!program.hasBlocks(routine) || what < 0 || what > 3) {
            return BAD;
        }
        costs.load(routine);
        orders.readRanks(routine, ranks);
        if (what == 0) {
            return costs.weigh(ranks);
        }
        if (what == 1) {
            return bestSearch.find(ranks);
        }
        return what == 2 ? costs.bound() : orders.falls(routine);
    }

    public int row(int i) {
        if (i < 0 || i >= program.blockCount) {
            return NONE;
        }
        layout.settle();
        return layout.line[i];
    }

    public int laid(int block, int what) {
        if (!program.isBlock(block) || what < 0 || what > 5) {
            return BAD;
        }
        layout.settle();
        switch (what) {
            case 0:
                return layout.address[block];
            case 1:
                return layout.behind[block];
            case 2:
                return layout.behind[block] - layout.endAddress(block);
            case 3:
                return layout.jumpsOf(block, true);
            case 4:
                return layout.jumpsOf(block, true) + layout.jumpsOf(block, false);
            default:
                return layout.latestTurn[block];
        }
    }

    public int image(int i) {
        picture.refresh();
        return i < 0 || i >= layout.total ? NONE : picture.byteAt(i);
    }

    public int told(int what) {
        layout.settle();
        switch (what) {
            case 0:
                return layout.total;
            case 1:
                return layout.gaps;
            case 2:
                return layout.allJumps(false);
            case 3:
                return layout.allJumps(true);
            case 4:
                return layout.turns;
            case 5:
                return layout.total - layout.tableFrom;
            default:
                return BAD;
        }
    }

    // ---- runs

    public int say(long bytes, int n) {
        if (n < 1 || n > 8) {
            return BAD;
        }
        if (tape.length + n > TAPE_MOST) {
            return FULL;
        }
        for (int i = n - 1; i >= 0; i--) {
            tape.append((int) (bytes >>> (8 * i)) & 255);
        }
        return tape.length;
    }

    public int tear() {
        int before = tape.length;
        tape.length = 0;
        return before;
    }

    public int run(int block, int how) {
        if (!program.isBlock(block) || !isSort(how)) {
            return BAD;
        }
        if (how == PLAIN) {
            runner.runBlocks(block, plainTrace);
            learnable = true;
            return plainTrace.ending;
        }
        runner.runBytes(block, laidTrace);
        laidTrace.missed = laidTrace.missedWith(pagesKept);
        return laidTrace.ending;
    }

    public int ran(int how, int what) {
        if (!isSort(how) || what < 0 || what > 8) {
            return BAD;
        }
        Trace trace = traceOf(how);
        if (!trace.made) {
            return NONE;
        }
        switch (what) {
            case 0:
                return trace.ending;
            case 1:
                return trace.blocks;
            case 2:
                return trace.choices;
            case 3:
                return trace.mostOpen;
            case 4:
                return trace.cost();
            case 5:
                return trace.jumps;
            case 6:
                return trace.testsJumped;
            case 7:
                return trace.testsStayed;
            default:
                return trace.missed;
        }
    }

    public int passed(int how, int i) {
        if (!isSort(how)) {
            return BAD;
        }
        Trace trace = traceOf(how);
        return i < 0 || i >= trace.blocks ? NONE : trace.blockAt[i];
    }

    public int learn() {
        if (!plainTrace.made || !learnable) {
            return STATE;
        }
        System.arraycopy(plainTrace.taken, 0, program.counts, 0, program.counts.length);
        return plainTrace.blocks;
    }

    public int pages(int k) {
        if (k < 0 || k > PAGES_MOST) {
            return BAD;
        }
        return laidTrace.made ? laidTrace.missedWith(k) : STATE;
    }

    public int differ() {
        for (int block = 0; block < program.blockCount; block++) {
            runner.runBlocks(block, sparePlain);
            runner.runBytes(block, spareLaid);
            if (!sparePlain.agrees(spareLaid)) {
                return block;
            }
        }
        return NONE;
    }

    public int has(int what) {
        switch (what) {
            case 0:
                return program.routineCount;
            case 1:
                return program.blockCount;
            case 2:
                return tape.length;
            case 3:
                return asNumber(layout.apart);
            case 4:
                return layout.align;
            case 5:
                return pagesKept;
            case 6:
                return orders.keptCount;
            default:
                return BAD;
        }
    }

    private static boolean isSort(int how) {
        return how == PLAIN || how == LAID;
    }

    private Trace traceOf(int how) {
        return how == PLAIN ? plainTrace : laidTrace;
    }

    /** What was told of ROUTINES and BLOCKS. A BLOCK's rank is its number within its ROUTINE, as they came. */
    private static final class Program {
        int routineCount;
        int blockCount;
        final int[] ownCount = new int[ROUTINES_MOST];
        final int[] own = new int[ROUTINES_MOST * OWN_MOST];
        final int[] routineOf = new int[BLOCKS_MOST];
        final int[] rank = new int[BLOCKS_MOST];
        final int[] size = new int[BLOCKS_MOST];
        final int[] kind = new int[BLOCKS_MOST];
        final int[] wayCount = new int[BLOCKS_MOST];
        final int[] called = new int[BLOCKS_MOST];
        final boolean[] isCold = new boolean[BLOCKS_MOST];
        final int[] ways = new int[BLOCKS_MOST * WAYS_MOST];
        final int[] counts = new int[BLOCKS_MOST * WAYS_MOST];

        Program() {
            routineCount = 0;
            blockCount = 0;
        }

        boolean isRoutine(int routine) {
            return routine >= 0 && routine < routineCount;
        }

        boolean hasBlocks(int routine) {
            return isRoutine(routine) && ownCount[routine] > 0;
        }

        boolean isBlock(int block) {
            return block >= 0 && block < blockCount;
        }

        boolean isBlockOf(int routine, int block) {
            return isBlock(block) && routineOf[block] == routine;
        }

        int ownBlock(int routine, int wanted) {
            return own[routine * OWN_MOST + wanted];
        }

        /** The WAY of a BLOCK, or NOWHERE if it has no such one. */
        int wayOf(int block, int way) {
            return way < wayCount[block] ? ways[block * WAYS_MOST + way] : NOWHERE;
        }

        int countOf(int block, int way) {
            return way < wayCount[block] ? counts[block * WAYS_MOST + way] : 0;
        }

        int addRoutine() {
            int routine = routineCount;
            routineCount++;
            return routine;
        }

        int addBlock(int routine, int bytes) {
            int block = blockCount;
            blockCount++;
            routineOf[block] = routine;
            rank[block] = ownCount[routine];
            own[routine * OWN_MOST + ownCount[routine]] = block;
            ownCount[routine]++;
            size[block] = bytes;
            kind[block] = END_BACK;
            return block;
        }

        void tellEnd(int block, int newKind, int[] newWays, int n) {
            kind[block] = newKind;
            wayCount[block] = n;
            called[block] = newKind == CALL ? newWays[1] : NOWHERE;
            for (int i = 0; i < WAYS_MOST; i++) {
                ways[block * WAYS_MOST + i] = i < n ? newWays[i] : NOWHERE;
                counts[block * WAYS_MOST + i] = 0;
            }
        }

        /** Whether the END goes on to WAY 0 by itself, but for a JUMP that may be needed. */
        boolean goesOn(int block) {
            return kind[block] == GO || kind[block] == CALL || kind[block] == GUARDED;
        }
    }

    /** The order of each ROUTINE's BLOCKS, and the orders that undo can bring back. */
    private static final class Orders {
        final Program program;
        final int[] blockAt = new int[ROUTINES_MOST * OWN_MOST];
        final int[] placeOf = new int[BLOCKS_MOST];
        final int[] keptBlocks = new int[KEPT_MOST * OWN_MOST];
        final int[] keptRoutine = new int[KEPT_MOST];
        int keptCount;

        Orders(Program program) {
            this.program = program;
            keptCount = 0;
        }

        void put(int routine, int place, int block) {
            blockAt[routine * OWN_MOST + place] = block;
            placeOf[block] = place;
        }

        void append(int block) {
            put(program.routineOf[block], program.rank[block], block);
        }

        /** What is right behind a BLOCK in its order, or NOWHERE. */
        int nextOf(int block) {
            int routine = program.routineOf[block];
            int place = placeOf[block] + 1;
            return place < program.ownCount[routine] ? blockAt[routine * OWN_MOST + place] : NOWHERE;
        }

        void shift(int block, int place) {
            int routine = program.routineOf[block];
            int step = placeOf[block] < place ? 1 : -1;
            int distance = Math.abs(place - placeOf[block]);
            int at = placeOf[block];
            for (int i = 0; i < distance; i++) {
                put(routine, at, blockAt[routine * OWN_MOST + at + step]);
                at += step;
            }
            put(routine, place, block);
        }

        void exchange(int block, int other) {
            int routine = program.routineOf[block];
            int place = placeOf[block];
            put(routine, placeOf[other], block);
            put(routine, place, other);
        }

        void readRanks(int routine, int[] ranks) {
            for (int i = 0; i < program.ownCount[routine]; i++) {
                ranks[i] = program.rank[blockAt[routine * OWN_MOST + i]];
            }
        }

        void writeRanks(int routine, int[] ranks) {
            for (int i = 0; i < program.ownCount[routine]; i++) {
                put(routine, i, program.ownBlock(routine, ranks[i]));
            }
        }

        int falls(int routine) {
            int found = 0;
            for (int i = 0; i < program.ownCount[routine]; i++) {
                if (fallsOn(blockAt[routine * OWN_MOST + i])) {
                    found++;
                }
            }
            return found;
        }

        boolean fallsOn(int block) {
            int next = nextOf(block);
            for (int way = 0; way < program.wayCount[block]; way++) {
                if (next != NOWHERE && program.wayOf(block, way) == next) {
                    return true;
                }
            }
            return false;
        }

        void keep(int routine) {
            if (keptCount == KEPT_MOST) {
                System.arraycopy(keptBlocks, OWN_MOST, keptBlocks, 0, (KEPT_MOST - 1) * OWN_MOST);
                System.arraycopy(keptRoutine, 1, keptRoutine, 0, KEPT_MOST - 1);
                keptCount--;
            }
            System.arraycopy(blockAt, routine * OWN_MOST, keptBlocks, keptCount * OWN_MOST, OWN_MOST);
            keptRoutine[keptCount] = routine;
            keptCount++;
        }

        void restore() {
            if (keptCount == 0) {
                return;
            }
            keptCount--;
            int routine = keptRoutine[keptCount];
            for (int i = 0; i < program.ownCount[routine]; i++) {
                put(routine, i, keptBlocks[keptCount * OWN_MOST + i]);
            }
        }

        void forget() {
            keptCount = 0;
        }
    }

    /** What each BLOCK of one ROUTINE costs by what is NEXT, by ranks: read once, as searches ask for it often. */
    private static final class Costs {
        /** Stands for nothing being NEXT, behind all ranks. */
        static final int NOTHING = OWN_MOST, ACROSS = OWN_MOST + 1;
        final Program program;
        final int[] price = new int[OWN_MOST * ACROSS];
        int n;

        Costs(Program program) {
            this.program = program;
            n = 0;
        }

        void load(int routine) {
            n = program.ownCount[routine];
            for (int i = 0; i < n; i++) {
                int block = program.ownBlock(routine, i);
                for (int next = 0; next < n; next++) {
                    price[i * ACROSS + next] = priceOf(block, program.ownBlock(routine, next));
                }
                price[i * ACROSS + NOTHING] = priceOf(block, NOWHERE);
            }
        }

        private int priceOf(int block, int next) {
            int first = program.countOf(block, 0);
            int second = program.countOf(block, 1);
            if (program.goesOn(block)) {
                return program.wayOf(block, 0) == next ? 0 : 2 * first;
            }
            if (program.kind[block] != TEST) {
                return 0;
            }
            if (program.wayOf(block, 1) == next) {
                return 3 * first + second;
            }
            if (program.wayOf(block, 0) == next) {
                return first + 3 * second;
            }
            return 3 * first + 3 * second;
        }

        int between(int rank, int next) {
            return price[rank * ACROSS + next];
        }

        int weigh(int[] ranks) {
            int sum = 0;
            for (int i = 0; i < n; i++) {
                sum += between(ranks[i], i + 1 < n ? ranks[i + 1] : NOTHING);
            }
            return sum;
        }

        /** Any rank counts as NEXT here, the first one and the BLOCK itself too: BOUND asks not what could be. */
        int bound() {
            int sum = 0;
            for (int i = 0; i < n; i++) {
                int least = between(i, NOTHING);
                for (int next = 0; next < n; next++) {
                    least = Math.min(least, between(i, next));
                }
                sum += least;
            }
            return sum;
        }
    }

    /** BEST, by the least cost of what is still to come for each set of BLOCKS that are there and each last one. */
    private static final class BestSearch {
        /** Above the WEIGHT of any order. */
        static final int HEAVIER = 1000000000;
        final Costs costs;
        final int[] rest = new int[(1 << (OWN_MOST - 1)) * OWN_MOST];

        BestSearch(Costs costs) {
            this.costs = costs;
        }

        /** The first rank is always there and has no bit; rank r has bit r - 1. */
        private static int bitOf(int rank) {
            return rank == 0 ? 0 : 1 << (rank - 1);
        }

        int find(int[] ranks) {
            if (costs.n == 0) {
                return 0;
            }
            int all = (1 << (costs.n - 1)) - 1;
            for (int there = all; there >= 0; there--) {
                for (int last = 0; last < costs.n; last++) {
                    rest[there * OWN_MOST + last] = leastRest(there, last, all);
                }
            }
            ranks[0] = 0;
            int there = 0;
            for (int i = 1; i < costs.n; i++) {
                ranks[i] = firstBest(there, ranks[i - 1]);
                there |= bitOf(ranks[i]);
            }
            return rest[0];
        }

        private int leastRest(int there, int last, int all) {
            boolean isThere = last == 0 ? there == 0 || all == 0 : (there & bitOf(last)) != 0;
            if (!isThere) {
                return 0;
            }
            if (there == all) {
                return costs.between(last, Costs.NOTHING);
            }
            int least = HEAVIER;
            for (int next = 1; next < costs.n; next++) {
                if ((there & bitOf(next)) == 0) {
                    least = Math.min(least, through(there, last, next));
                }
            }
            return least;
        }

        private int through(int there, int last, int next) {
            return costs.between(last, next) + rest[(there | bitOf(next)) * OWN_MOST + next];
        }

        /** The least rank that keeps to the least cost: of several orders the first one is wanted. */
        private int firstBest(int there, int last) {
            for (int next = 1; next < costs.n; next++) {
                if ((there & bitOf(next)) == 0 && through(there, last, next) == rest[there * OWN_MOST + last]) {
                    return next;
                }
            }
            return 0;
        }
    }

    /** LOCAL: changes of two places, as long as one makes the WEIGHT less. */
    private static final class LocalSearch {
        /** Each change makes the WEIGHT less, so no order of the 8! comes twice. */
        static final int CHANGES_MOST = 40320;
        static final int EXCHANGE = 0, TURN_ROUND = 1, TO_LATER = 2, TO_EARLIER = 3;
        final Costs costs;
        final int[] trial = new int[OWN_MOST];

        LocalSearch(Costs costs) {
            this.costs = costs;
        }

        void improve(int[] ranks) {
            for (int change = 0; change < CHANGES_MOST; change++) {
                if (!improveOnce(ranks)) {
                    return;
                }
            }
        }

        private boolean improveOnce(int[] ranks) {
            int weight = costs.weigh(ranks);
            for (int sort = EXCHANGE; sort <= TO_EARLIER; sort++) {
                for (int i = 1; i < costs.n; i++) {
                    for (int j = i + 1; j < costs.n; j++) {
                        attempt(ranks, sort, i, j);
                        if (costs.weigh(trial) < weight) {
                            System.arraycopy(trial, 0, ranks, 0, OWN_MOST);
                            return true;
                        }
                    }
                }
            }
            return false;
        }

        private void attempt(int[] ranks, int sort, int i, int j) {
            System.arraycopy(ranks, 0, trial, 0, OWN_MOST);
            if (sort == EXCHANGE) {
                trial[i] = ranks[j];
                trial[j] = ranks[i];
            } else if (sort == TURN_ROUND) {
                for (int at = i; at <= j; at++) {
                    trial[at] = ranks[i + j - at];
                }
            } else if (sort == TO_LATER) {
                System.arraycopy(ranks, i + 1, trial, i, j - i);
                trial[j] = ranks[i];
            } else {
                System.arraycopy(ranks, i, trial, i + 1, j - i);
                trial[i] = ranks[j];
            }
        }
    }

    /** CHAINS, by ranks: a chain is known by its first one. */
    private static final class ChainSearch {
        final Program program;
        final int[] firstOf = new int[OWN_MOST];
        final int[] follower = new int[OWN_MOST];
        final boolean[] isUsed = new boolean[OWN_MOST * 2];
        final boolean[] isPlaced = new boolean[OWN_MOST];
        int routine;
        int n;
        int placed;

        ChainSearch(Program program) {
            this.program = program;
        }

        void find(int ofRoutine, int[] ranks) {
            routine = ofRoutine;
            n = program.ownCount[ofRoutine];
            placed = 0;
            for (int i = 0; i < n; i++) {
                firstOf[i] = i;
                follower[i] = NOWHERE;
                isPlaced[i] = false;
                isUsed[2 * i] = false;
                isUsed[2 * i + 1] = false;
            }
            joinAll();
            place(0, ranks);
            for (int i = 1; i < n && placed < n; i++) {
                place(strongest(ranks), ranks);
            }
        }

        private void joinAll() {
            for (int i = 0; i < 2 * n; i++) {
                int edge = greatest();
                if (edge == NOWHERE) {
                    return;
                }
                isUsed[edge] = true;
                int block = program.ownBlock(routine, edge / 2);
                join(edge / 2, program.rank[program.wayOf(block, edge % 2)]);
            }
        }

        /** Of WAYS not used yet, by BLOCKS, then WAYS, the first of the greatest COUNT; NOWHERE if all are 0. */
        private int greatest() {
            int found = NOWHERE;
            int most = 0;
            for (int edge = 0; edge < 2 * n; edge++) {
                int size = isUsed[edge] ? 0 : pull(edge);
                if (size > most) {
                    most = size;
                    found = edge;
                }
            }
            return found;
        }

        private int pull(int edge) {
            int block = program.ownBlock(routine, edge / 2);
            int way = edge % 2;
            boolean counts = program.kind[block] == TEST || way == 0 && program.goesOn(block);
            return counts ? program.countOf(block, way) : 0;
        }

        private void join(int from, int to) {
            if (to == 0 || follower[from] != NOWHERE || firstOf[to] != to || firstOf[from] == to) {
                return;
            }
            follower[from] = to;
            for (int i = 0; i < n; i++) {
                if (firstOf[i] == to) {
                    firstOf[i] = firstOf[from];
                }
            }
        }

        private void place(int first, int[] ranks) {
            int rank = first;
            for (int i = 0; i < n && rank != NOWHERE && placed < n; i++) {
                ranks[placed] = rank;
                isPlaced[rank] = true;
                placed++;
                rank = follower[rank];
            }
        }

        private int strongest(int[] ranks) {
            int found = NOWHERE;
            int most = -1;
            for (int rank = 0; rank < n; rank++) {
                if (firstOf[rank] == rank && !isPlaced[rank]) {
                    int sum = leadTo(rank, ranks);
                    if (sum > most) {
                        most = sum;
                        found = rank;
                    }
                }
            }
            return found;
        }

        /** All WAYS lead on here, those of TABLE and the failing one too: the document leaves out none at this step. */
        private int leadTo(int first, int[] ranks) {
            int sum = 0;
            for (int i = 0; i < placed; i++) {
                int block = program.ownBlock(routine, ranks[i]);
                for (int way = 0; way < program.wayCount[block]; way++) {
                    if (firstOf[program.rank[program.wayOf(block, way)]] == first) {
                        sum += program.countOf(block, way);
                    }
                }
            }
            return sum;
        }
    }

    /** THE ROW and where all lies in it. A BLOCK has two slots: 2 b for a TEST JUMP, 2 b + 1 for a JUMP. */
    private static final class Layout {
        static final int SLOTS = 2 * BLOCKS_MOST;
        final Program program;
        final Orders orders;
        final int[] line = new int[BLOCKS_MOST];
        final int[] next = new int[BLOCKS_MOST];
        final int[] address = new int[BLOCKS_MOST];
        final int[] behind = new int[BLOCKS_MOST];
        final int[] target = new int[SLOTS];
        final int[] slotBehind = new int[SLOTS];
        final boolean[] isLong = new boolean[SLOTS];
        final boolean[] isTurned = new boolean[BLOCKS_MOST];
        final int[] latestTurn = new int[BLOCKS_MOST];
        int align;
        boolean apart;
        int turns;
        int gaps;
        int tableFrom;
        int total;
        int version;
        private boolean settled;

        Layout(Program program, Orders orders) {
            this.program = program;
            this.orders = orders;
            align = 1;
            apart = false;
            version = 0;
            settled = false;
        }

        void disturb() {
            settled = false;
        }

        /** Lays all anew, but only if something was told since. */
        void settle() {
            if (settled) {
                return;
            }
            settled = true;
            version++;
            lineUp();
            for (int i = 0; i < program.blockCount; i++) {
                chooseJumps(i);
            }
            turns = 0;
            layAll();
            for (int turn = 1; turn <= SLOTS && lengthen(turn); turn++) {
                turns = turn;
                layAll();
            }
        }

        private void lineUp() {
            int filled = lineUpThose(false, 0);
            if (apart) {
                filled = lineUpThose(true, filled);
            }
            for (int i = 0; i < filled; i++) {
                next[line[i]] = i + 1 < filled ? line[i + 1] : NOWHERE;
            }
        }

        private int lineUpThose(boolean behindAll, int from) {
            int filled = from;
            for (int routine = 0; routine < program.routineCount; routine++) {
                for (int i = 0; i < program.ownCount[routine]; i++) {
                    int block = orders.blockAt[routine * OWN_MOST + i];
                    if ((apart && program.isCold[block]) == behindAll) {
                        line[filled] = block;
                        filled++;
                    }
                }
            }
            return filled;
        }

        private void chooseJumps(int block) {
            int way0 = program.wayOf(block, 0);
            int way1 = program.wayOf(block, 1);
            int test = NOWHERE;
            int jump = NOWHERE;
            boolean turned = false;
            if (program.goesOn(block)) {
                jump = way0 == next[block] ? NOWHERE : way0;
            } else if (program.kind[block] == TEST) {
                turned = way1 != next[block] && way0 == next[block];
                test = turned ? way1 : way0;
                jump = turned || way1 == next[block] ? NOWHERE : way1;
            }
            target[2 * block] = test;
            target[2 * block + 1] = jump;
            isTurned[block] = turned;
            isLong[2 * block] = false;
            isLong[2 * block + 1] = false;
            latestTurn[block] = 0;
        }

        private void layAll() {
            int at = 0;
            int guarded = 0;
            gaps = 0;
            for (int i = 0; i < program.blockCount; i++) {
                int block = line[i];
                int start = (at + align - 1) & -align;
                gaps += start - at;
                address[block] = start;
                at = layEnd(block, start + program.size[block]);
                behind[block] = at;
                guarded += program.kind[block] == GUARDED ? 1 : 0;
            }
            tableFrom = at;
            total = at + 8 * guarded;
        }

        private int layEnd(int block, int from) {
            int kind = program.kind[block];
            if (kind == END_BACK || kind == END_TRAP) {
                return from + 1;
            }
            if (kind == TABLE) {
                return wordsFrom(from) + 4 * program.wayCount[block];
            }
            int at = kind == CALL ? from + 5 : from;
            at += slotBytes(2 * block, 6);
            slotBehind[2 * block] = at;
            at += slotBytes(2 * block + 1, 5);
            slotBehind[2 * block + 1] = at;
            return at;
        }

        /** Where the addresses of a TABLE stand that begins at an address. */
        static int wordsFrom(int from) {
            return (from + 2 + 3) & -4;
        }

        private int slotBytes(int slot, int longBytes) {
            if (target[slot] == NOWHERE) {
                return 0;
            }
            return isLong[slot] ? longBytes : 2;
        }

        /** How far a slot's bytes go, from behind them. */
        int reach(int slot) {
            return address[target[slot]] - slotBehind[slot];
        }

        /** Asks only where all lay before this TURN, so what becomes LONG in it does not count yet. */
        private boolean lengthen(int turn) {
            boolean some = false;
            for (int slot = 0; slot < 2 * program.blockCount; slot++) {
                if (target[slot] != NOWHERE && !isLong[slot] && (reach(slot) < -128 || reach(slot) > 127)) {
                    isLong[slot] = true;
                    latestTurn[slot / 2] = turn;
                    some = true;
                }
            }
            return some;
        }

        int endAddress(int block) {
            return address[block] + program.size[block];
        }

        int jumpsOf(int block, boolean longOnes) {
            int found = 0;
            for (int slot = 2 * block; slot <= 2 * block + 1; slot++) {
                found += target[slot] != NOWHERE && isLong[slot] == longOnes ? 1 : 0;
            }
            return found;
        }

        int allJumps(boolean longOnes) {
            int found = 0;
            for (int block = 0; block < program.blockCount; block++) {
                found += jumpsOf(block, longOnes);
            }
            return found;
        }
    }

    /** The bytes of what is laid. */
    private static final class Picture {
        static final int JUMP_SHORT = 235, JUMP_LONG = 233, CALLS = 232, BACKS = 195, TRAPS = 204;
        static final int TEST_SHORT = 112, TURNED_SHORT = 113, WIDE = 15, TEST_LONG = 128, TURNED_LONG = 129;
        static final int TABLES = 255, TABLES_TOO = 36, BETWEEN = 144;
        /** Of each BLOCK at most: what is ahead of it, its own, a TABLE of 4, and its part of THE TABLE behind all. */
        static final int BYTES_MOST = BLOCKS_MOST * (ALIGN_MOST - 1 + SIZE_MOST + 21 + 8);
        final Program program;
        final Layout layout;
        final byte[] bytes = new byte[BYTES_MOST];
        /** Where THE TABLE behind all tells of a BLOCK, or NOWHERE: so that a run need not look through it. */
        final int[] guardAt = new int[BLOCKS_MOST];
        private int version;
        private int at;

        Picture(Program program, Layout layout) {
            this.program = program;
            this.layout = layout;
            version = 0;
            at = 0;
        }

        int byteAt(int i) {
            return i < 0 || i >= BYTES_MOST ? 0 : bytes[i] & 255;
        }

        int signedAt(int i) {
            return (byte) byteAt(i);
        }

        int wordAt(int i) {
            return byteAt(i) | byteAt(i + 1) << 8 | byteAt(i + 2) << 16 | byteAt(i + 3) << 24;
        }

        /** A BLOCK's own bytes are its number, so the byte at an address tells which one begins there. */
        int blockAt(int address) {
            int block = byteAt(address);
            return program.isBlock(block) && layout.address[block] == address ? block : NOWHERE;
        }

        void refresh() {
            layout.settle();
            if (version == layout.version) {
                return;
            }
            version = layout.version;
            at = 0;
            for (int i = 0; i < program.blockCount; i++) {
                writeBlock(layout.line[i]);
            }
            for (int i = 0; i < program.blockCount; i++) {
                writeGuard(layout.line[i]);
            }
        }

        private void writeBlock(int block) {
            fillTo(layout.address[block], BETWEEN);
            fillTo(layout.endAddress(block), block);
            switch (program.kind[block]) {
                case END_BACK:
                    put(BACKS);
                    break;
                case END_TRAP:
                    put(TRAPS);
                    break;
                case TABLE:
                    writeTable(block);
                    break;
                case CALL:
                    put(CALLS);
                    putWord(layout.address[program.ownBlock(program.called[block], 0)] - (at + 4));
                    writeJump(2 * block + 1);
                    break;
                default:
                    writeTest(block);
                    writeJump(2 * block + 1);
                    break;
            }
        }

        private void writeTable(int block) {
            int words = Layout.wordsFrom(at);
            put(TABLES);
            put(TABLES_TOO);
            fillTo(words, 0);
            for (int way = 0; way < program.wayCount[block]; way++) {
                putWord(layout.address[program.wayOf(block, way)]);
            }
        }

        private void writeTest(int block) {
            int slot = 2 * block;
            if (layout.target[slot] == NOWHERE) {
                return;
            }
            if (layout.isLong[slot]) {
                put(WIDE);
                put(layout.isTurned[block] ? TURNED_LONG : TEST_LONG);
                putWord(layout.reach(slot));
            } else {
                put(layout.isTurned[block] ? TURNED_SHORT : TEST_SHORT);
                put(layout.reach(slot));
            }
        }

        private void writeJump(int slot) {
            if (layout.target[slot] == NOWHERE) {
                return;
            }
            if (layout.isLong[slot]) {
                put(JUMP_LONG);
                putWord(layout.reach(slot));
            } else {
                put(JUMP_SHORT);
                put(layout.reach(slot));
            }
        }

        private void writeGuard(int block) {
            guardAt[block] = NOWHERE;
            if (program.kind[block] == GUARDED) {
                guardAt[block] = at;
                putWord(layout.address[block]);
                putWord(layout.address[program.wayOf(block, 1)]);
            }
        }

        private void fillTo(int stop, int value) {
            for (int i = at; i < stop; i++) {
                put(value);
            }
        }

        private void put(int value) {
            if (at < BYTES_MOST) {
                bytes[at] = (byte) value;
                at++;
            }
        }

        private void putWord(int value) {
            put(value);
            put(value >> 8);
            put(value >> 16);
            put(value >> 24);
        }
    }

    /** THE TAPE. */
    private static final class Tape {
        final byte[] bytes = new byte[TAPE_MOST];
        int length;

        Tape() {
            length = 0;
        }

        void append(int value) {
            if (length < TAPE_MOST) {
                bytes[length] = (byte) value;
                length++;
            }
        }

        int choiceAt(int i) {
            return i >= 0 && i < length ? bytes[i] & 255 : 0;
        }
    }

    /** What one run did. Pages are kept as they were, for the layout may change behind the run. */
    private static final class Trace {
        boolean made;
        int ending;
        int blocks;
        int choices;
        int open;
        int mostOpen;
        int jumps;
        int testsJumped;
        int testsStayed;
        int missed;
        final int[] blockAt = new int[PASSED_MOST];
        final int[] pageAt = new int[PASSED_MOST];
        final int[] taken = new int[BLOCKS_MOST * WAYS_MOST];
        final int[] caller = new int[OPEN_MOST];
        final int[] returnTo = new int[OPEN_MOST];
        final int[] pagesHeld = new int[PAGES_MOST];

        Trace() {
            made = false;
        }

        void begin() {
            made = true;
            ending = TRAP;
            blocks = 0;
            choices = 0;
            open = 0;
            mostOpen = 0;
            jumps = 0;
            testsJumped = 0;
            testsStayed = 0;
            missed = 0;
            Arrays.fill(taken, 0);
        }

        void pass(int block, int page) {
            if (blocks < PASSED_MOST) {
                blockAt[blocks] = block;
                pageAt[blocks] = page;
                blocks++;
            }
        }

        /** Ends the run: what goes on from here is nowhere. */
        int stop(int how) {
            ending = how;
            return NOWHERE;
        }

        boolean openCall(int block, int address) {
            if (open >= OPEN_MOST) {
                return false;
            }
            caller[open] = block;
            returnTo[open] = address;
            open++;
            mostOpen = Math.max(mostOpen, open);
            return true;
        }

        int cost() {
            return 2 * jumps + 3 * testsJumped + testsStayed + 50 * missed;
        }

        int missedWith(int k) {
            int held = 0;
            int misses = 0;
            for (int i = 0; i < blocks; i++) {
                int place = heldPlace(pageAt[i], held);
                if (place == NOWHERE) {
                    misses++;
                    held = Math.min(held + 1, k);
                    place = held - 1;
                }
                holdFirst(pageAt[i], place);
            }
            return misses;
        }

        private int heldPlace(int page, int held) {
            for (int i = 0; i < held; i++) {
                if (pagesHeld[i] == page) {
                    return i;
                }
            }
            return NOWHERE;
        }

        private void holdFirst(int page, int place) {
            for (int i = place; i > 0; i--) {
                pagesHeld[i] = pagesHeld[i - 1];
            }
            if (place >= 0) {
                pagesHeld[0] = page;
            }
        }

        boolean agrees(Trace other) {
            if (ending != other.ending || blocks != other.blocks) {
                return false;
            }
            for (int i = 0; i < blocks; i++) {
                if (blockAt[i] != other.blockAt[i]) {
                    return false;
                }
            }
            return true;
        }
    }

    /** Runs BLOCKS as they were told, and bytes as they are laid. */
    private static final class Runner {
        /** A call's return and the JUMP behind it, or a TEST JUMP and a JUMP, are the longest that stand together. */
        static final int STEPS_MOST = 4;
        final Program program;
        final Layout layout;
        final Picture picture;
        final Tape tape;
        /** Whose END's bytes are read, and from where on. */
        private int reading;
        private int at;

        Runner(Program program, Layout layout, Picture picture, Tape tape) {
            this.program = program;
            this.layout = layout;
            this.picture = picture;
            this.tape = tape;
            reading = 0;
            at = 0;
        }

        private int choose(Trace into) {
            int choice = tape.choiceAt(into.choices);
            into.choices++;
            return choice;
        }

        void runBlocks(int from, Trace into) {
            into.begin();
            int block = from;
            for (int i = 0; i < PASSED_MOST && block != NOWHERE; i++) {
                into.pass(block, 0);
                block = afterBlock(block, into);
            }
            if (block != NOWHERE) {
                into.stop(LONG);
            }
        }

        private int afterBlock(int block, Trace into) {
            switch (program.kind[block]) {
                case GO:
                    return take(block, 0, into);
                case TEST:
                    return take(block, choose(into) & 1, into);
                case TABLE:
                    return take(block, choose(into) % Math.max(1, program.wayCount[block]), into);
                case CALL:
                    return into.openCall(block, 0) ? program.ownBlock(program.called[block], 0) : into.stop(DEEP);
                case GUARDED:
                    return take(block, choose(into) == FAILS ? 1 : 0, into);
                case END_TRAP:
                    return into.stop(TRAP);
                default:
                    return goBack(into);
            }
        }

        private int goBack(Trace into) {
            if (into.open == 0) {
                return into.stop(BACK);
            }
            into.open--;
            return take(into.caller[into.open], 0, into);
        }

        private int take(int block, int way, Trace into) {
            into.taken[block * WAYS_MOST + way]++;
            return program.wayOf(block, way);
        }

        void runBytes(int from, Trace into) {
            picture.refresh();
            into.begin();
            int block = from;
            for (int i = 0; i < PASSED_MOST && block != NOWHERE; i++) {
                into.pass(block, layout.address[block] / PAGE_BYTES);
                block = afterBytes(block, into);
            }
            if (block != NOWHERE) {
                into.stop(LONG);
            }
        }

        private int afterBytes(int block, Trace into) {
            int guard = picture.guardAt[block];
            if (guard != NOWHERE && choose(into) == FAILS) {
                return picture.blockAt(picture.wordAt(guard + 4));
            }
            reading = block;
            at = layout.endAddress(block);
            for (int i = 0; i < STEPS_MOST && at < layout.behind[reading]; i++) {
                if (!readOne(into)) {
                    return at == NOWHERE ? NOWHERE : picture.blockAt(at);
                }
            }
            return layout.next[reading];
        }

        /** Does what stands at the place; false if that leaves these bytes: for the address there, or NOWHERE. */
        private boolean readOne(Trace into) {
            int code = picture.byteAt(at);
            switch (code) {
                case Picture.JUMP_SHORT:
                    into.jumps++;
                    return leave(at + 2 + picture.signedAt(at + 1));
                case Picture.JUMP_LONG:
                    into.jumps++;
                    return leave(at + 5 + picture.wordAt(at + 1));
                case Picture.TEST_SHORT:
                case Picture.TURNED_SHORT:
                    return readTest(into, code == Picture.TURNED_SHORT, at + 2, picture.signedAt(at + 1));
                case Picture.WIDE:
                    code = picture.byteAt(at + 1);
                    return readTest(into, code == Picture.TURNED_LONG, at + 6, picture.wordAt(at + 2));
                case Picture.CALLS:
                    if (!into.openCall(reading, at + 5)) {
                        return leave(into.stop(DEEP));
                    }
                    return leave(at + 5 + picture.wordAt(at + 1));
                case Picture.TABLES:
                    return readTable(into);
                case Picture.BACKS:
                    return readBack(into);
                default:
                    return leave(into.stop(TRAP));
            }
        }

        private boolean leave(int address) {
            at = address;
            return false;
        }

        private boolean readTest(Trace into, boolean turned, int behind, int distance) {
            boolean odd = (choose(into) & 1) == 1;
            if (odd == turned) {
                into.testsJumped++;
                return leave(behind + distance);
            }
            into.testsStayed++;
            at = behind;
            return true;
        }

        private boolean readTable(Trace into) {
            int words = Layout.wordsFrom(at);
            int n = Math.max(1, (layout.behind[reading] - words) / 4);
            return leave(picture.wordAt(words + 4 * (choose(into) % n)));
        }

        private boolean readBack(Trace into) {
            if (into.open == 0) {
                return leave(into.stop(BACK));
            }
            into.open--;
            reading = into.caller[into.open];
            at = into.returnTo[into.open];
            return true;
        }
    }
}
