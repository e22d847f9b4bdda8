/**
 * Several parties swap what they have across several chains, without trusting one another.
 * The document's promises are named by number at the methods that keep them.
 */
public final class SwapDesk {
    private static final int MOST_PARTIES = 6;
    private static final int MOST_ARCS = 14;
    private static final int MOST_TIMES = 40;
    private static final int MOST_TICKS = 100;

    private static final int HELD = 0;
    private static final int ESCROW = 1;
    private static final int PAID = 2;
    private static final int BACK = 3;

    private static final int NO_DEAL = 0;
    private static final int DEAL = 1;
    private static final int DISCOUNT = 2;
    private static final int FREE_RIDE = 3;
    private static final int UNDERWATER = 4;

    private static final int REFUSED = -1;

    private final int parties;
    private final int delay;
    private final Graph graph;
    private final int[] payers = new int[MOST_ARCS];
    private final int[] payees = new int[MOST_ARCS];
    private final int[] states = new int[MOST_ARCS];
    private final int[] openLocks = new int[MOST_ARCS];
    /** For each arc a stretch of MOST_PARTIES paths, by leader: those that its open locks were opened with. */
    private final int[] keys = new int[MOST_ARCS * MOST_PARTIES];
    private int arcs;
    private boolean planned;
    private int leaderSet;
    private int span;
    private int begin;
    private int time;
    private int deviants;
    private int atHand = Row.EMPTY;

    /** Promise 1. */
    public SwapDesk(int parties, int d) {
        this.parties = Math.min(2 + (parties & 7), MOST_PARTIES);
        this.delay = 2 + (d & 7);
        this.graph = new Graph(this.parties);
    }

    /** Promise 2. */
    public int arc(int payer, int payee) throws IllegalArgumentException, IllegalStateException {
        if (!isParty(payer) || !isParty(payee) || payer == payee || graph.joins(payer, payee)) {
            throw new IllegalArgumentException("an arc goes between two different parties, once");
        }
        if (planned || arcs >= MOST_ARCS) {
            throw new IllegalStateException("no more arcs");
        }
        int number = arcs;
        graph.join(payer, payee);
        payers[number] = payer;
        payees[number] = payee;
        arcs = number + 1;
        return number;
    }

    /** Promise 3. */
    public int plan() throws UnsupportedOperationException, IllegalStateException {
        if (planned) {
            throw new UnsupportedOperationException("there is a plan");
        }
        if (!graph.isStrong()) {
            throw new IllegalStateException("the plan would not be strong");
        }
        planned = true;
        begin = time;
        span = graph.longestPath();
        leaderSet = graph.fewestLeaders();
        return span;
    }

    /** Promise 4. */
    public int leaders() {
        return leaderSet;
    }

    /** Promise 5. */
    public boolean conform(int party, boolean does) {
        if (!isParty(party) || conforms(party) == does) {
            return false;
        }
        deviants ^= 1 << party;
        return true;
    }

    /** Promise 6. */
    public int act(int party) throws IllegalArgumentException, IllegalStateException, UnsupportedOperationException {
        if (!isParty(party)) {
            throw new IllegalArgumentException("no such party");
        }
        if (!planned) {
            throw new IllegalStateException("there is no plan");
        }
        if (!conforms(party)) {
            throw new UnsupportedOperationException("the party deviates");
        }
        return doDeeds(party);
    }

    /** Promise 7. */
    public int run(int times) throws IllegalArgumentException {
        if (times < 0 || times > MOST_TIMES) {
            throw new IllegalArgumentException("not so many times");
        }
        int deeds = 0;
        for (int round = 0; round < times; round++) {
            for (int party = 0; party < parties; party++) {
                deeds += planned && conforms(party) ? doDeeds(party) : 0;
            }
            time++;
        }
        return deeds;
    }

    /** Promise 8. */
    public void deploy(int arc) throws IndexOutOfBoundsException, IllegalStateException {
        if (!isArc(arc)) {
            throw new IndexOutOfBoundsException("no such arc");
        }
        if (!planned || states[arc] != HELD) {
            throw new IllegalStateException("there is no plan, or the asset is not held");
        }
        states[arc] = ESCROW;
    }

    /** Promise 9. */
    public int step(int party) {
        int size = Row.size(atHand);
        if (!isParty(party) || size >= MOST_PARTIES) {
            return REFUSED;
        }
        atHand = Row.withLast(atHand, party);
        return size + 1;
    }

    /** Promise 10. */
    public int show(int arc)
            throws IndexOutOfBoundsException, IllegalArgumentException, IllegalStateException,
                    UnsupportedOperationException {
        if (!isArc(arc)) {
            throw new IndexOutOfBoundsException("no such arc");
        }
        int leader = Row.last(atHand);
        if (Row.first(atHand) != payees[arc] || !graph.isPath(atHand) || !isLeader(leader)) {
            throw new IllegalArgumentException("no path from the payee to a leader");
        }
        if (!planned || states[arc] != ESCROW || isUnlocked(arc, leader)) {
            throw new IllegalStateException("no plan, not in escrow, or the lock is open");
        }
        if (!isInTime(atHand) || !mayShow(leader, atHand)) {
            throw new UnsupportedOperationException("too late, or another one's hashkey");
        }
        unlock(arc, leader, atHand);
        atHand = Row.EMPTY;
        return Integer.bitCount(openLocks[arc]);
    }

    /** Promise 11. */
    public void clear() {
        atHand = Row.EMPTY;
    }

    /** Promise 12. */
    public void back(int arc)
            throws IndexOutOfBoundsException, IllegalStateException, UnsupportedOperationException {
        if (!isArc(arc)) {
            throw new IndexOutOfBoundsException("no such arc");
        }
        if (states[arc] != ESCROW) {
            throw new IllegalStateException("the asset is not in escrow");
        }
        if (!isOver()) {
            throw new UnsupportedOperationException("too early");
        }
        states[arc] = BACK;
    }

    /** Promise 13. */
    public int pass(int ticks) {
        if (ticks < 0 || ticks > MOST_TICKS) {
            return REFUSED;
        }
        time += ticks;
        return time;
    }

    /** Promise 14. */
    public int state(int arc) throws IndexOutOfBoundsException {
        if (!isArc(arc)) {
            throw new IndexOutOfBoundsException("no such arc");
        }
        return states[arc];
    }

    /** Promise 15. */
    public int open(int arc) throws IndexOutOfBoundsException {
        if (!isArc(arc)) {
            throw new IndexOutOfBoundsException("no such arc");
        }
        return openLocks[arc];
    }

    /** Promise 16. */
    public int key(int arc, int leader, int k) throws IndexOutOfBoundsException {
        if (!isArc(arc)) {
            throw new IndexOutOfBoundsException("no such arc");
        }
        return Row.party(hashkey(arc, leader), k);
    }

    /** Promise 17. */
    public int outcome(int party) throws IndexOutOfBoundsException {
        if (!isParty(party)) {
            throw new IndexOutOfBoundsException("no such party");
        }
        int paid = countPaid(payees, party);
        int spent = countPaid(payers, party);
        if (paid == 0 && spent == 0) {
            return NO_DEAL;
        }
        if (paid == countArcs(payees, party)) {
            return spent == countArcs(payers, party) ? DEAL : DISCOUNT;
        }
        return spent == 0 ? FREE_RIDE : UNDERWATER;
    }

    private boolean isParty(int party) {
        return party >= 0 && party < parties;
    }

    private boolean isArc(int arc) {
        return arc >= 0 && arc < arcs;
    }

    private boolean isLeader(int party) {
        return isParty(party) && ((leaderSet >> party) & 1) == 1;
    }

    private boolean conforms(int party) {
        return ((deviants >> party) & 1) == 0;
    }

    /** From here on assets can be had back, and a party that conforms deploys no more. */
    private boolean isOver() {
        return time >= begin + 2 * span * delay;
    }

    private boolean isInTime(int path) {
        int length = Row.size(path) - 1;
        return time < begin + (span + length) * delay;
    }

    private int hashkey(int arc, int leader) {
        return isArc(arc) && isParty(leader) ? keys[arc * MOST_PARTIES + leader] : Row.EMPTY;
    }

    private boolean isUnlocked(int arc, int leader) {
        return ((openLocks[arc] >> leader) & 1) == 1;
    }

    private void unlock(int arc, int leader, int path) {
        keys[arc * MOST_PARTIES + leader] = path;
        openLocks[arc] |= 1 << leader;
        if (openLocks[arc] == leaderSet) {
            states[arc] = PAID;
        }
    }

    /** Every path ever shown stays with the lock that it opened, so the locks are all there is to look through. */
    private boolean mayShow(int leader, int path) {
        int rest = Row.rest(path);
        if (rest == Row.EMPTY) {
            return true;
        }
        for (int arc = 0; arc < arcs; arc++) {
            if (hashkey(arc, leader) == rest) {
                return true;
            }
        }
        return false;
    }

    private int doDeeds(int party) {
        int deeds = deployAll(party);
        deeds += showItself(party);
        deeds += showOthers(party);
        deeds += takeAllBack(party);
        return deeds;
    }

    private int deployAll(int party) {
        if (isOver() || (!isLeader(party) && !isSecured(party))) {
            return 0;
        }
        return moveAll(party, HELD, ESCROW);
    }

    private int showItself(int party) {
        if (!isLeader(party) || !isSecured(party)) {
            return 0;
        }
        return showToAll(party, party, Row.withFirst(party, Row.EMPTY));
    }

    private int showOthers(int party) {
        int deeds = 0;
        for (int leader = 0; leader < parties; leader++) {
            int path = isLeader(leader) ? shortestLearnt(party, leader) : Row.EMPTY;
            if (path != Row.EMPTY) {
                deeds += showToAll(party, leader, Row.withFirst(party, path));
            }
        }
        return deeds;
    }

    private int takeAllBack(int party) {
        return isOver() ? moveAll(party, ESCROW, BACK) : 0;
    }

    /** All arcs to the party are in escrow or paid. */
    private boolean isSecured(int party) {
        for (int arc = 0; arc < arcs; arc++) {
            if (payees[arc] == party && states[arc] != ESCROW && states[arc] != PAID) {
                return false;
            }
        }
        return true;
    }

    private int moveAll(int payer, int from, int to) {
        int deeds = 0;
        for (int arc = 0; arc < arcs; arc++) {
            if (payers[arc] == payer && states[arc] == from) {
                states[arc] = to;
                deeds++;
            }
        }
        return deeds;
    }

    private int shortestLearnt(int payer, int leader) {
        int best = Row.EMPTY;
        for (int arc = 0; arc < arcs; arc++) {
            int path = payers[arc] == payer ? hashkey(arc, leader) : Row.EMPTY;
            boolean usable = path != Row.EMPTY && !Row.has(path, payer);
            if (usable && (best == Row.EMPTY || Row.size(path) < Row.size(best))) {
                best = path;
            }
        }
        return best;
    }

    private int showToAll(int payee, int leader, int path) {
        if (!isInTime(path)) {
            return 0;
        }
        int deeds = 0;
        for (int arc = 0; arc < arcs; arc++) {
            if (payees[arc] == payee && states[arc] == ESCROW && !isUnlocked(arc, leader)) {
                unlock(arc, leader, path);
                deeds++;
            }
        }
        return deeds;
    }

    private int countArcs(int[] ends, int party) {
        int count = 0;
        for (int arc = 0; arc < arcs; arc++) {
            if (ends[arc] == party) {
                count++;
            }
        }
        return count;
    }

    private int countPaid(int[] ends, int party) {
        int count = 0;
        for (int arc = 0; arc < arcs; arc++) {
            if (ends[arc] == party && states[arc] == PAID) {
                count++;
            }
        }
        return count;
    }

    /**
     * A row of at most six parties in one int, so that keeping and handing on a path makes no object:
     * three bits for each, the first party lowest, and party + 1 in them, so that 0 ends the row.
     */
    private static final class Row {
        static final int EMPTY = 0;
        private static final int BITS = 3;
        private static final int MASK = 7;

        /** -1 if there is no such party in the row. */
        static int party(int row, int k) {
            return k < 0 || k >= MOST_PARTIES ? -1 : ((row >>> (BITS * k)) & MASK) - 1;
        }

        static int size(int row) {
            int size = 0;
            while (size < MOST_PARTIES && row >>> (BITS * size) != 0) {
                size++;
            }
            return size;
        }

        static int first(int row) {
            return party(row, 0);
        }

        static int last(int row) {
            return party(row, size(row) - 1);
        }

        static int rest(int row) {
            return row >>> BITS;
        }

        static int withFirst(int party, int row) {
            return (row << BITS) | (party + 1);
        }

        static int withLast(int row, int party) {
            return row | ((party + 1) << (BITS * size(row)));
        }

        static boolean has(int row, int party) {
            for (int k = 0; k < MOST_PARTIES; k++) {
                if (party >= 0 && party(row, k) == party) {
                    return true;
                }
            }
            return false;
        }
    }

    /** Who has an arc to whom: sets of parties are ints, bit p for party p. */
    private static final class Graph {
        private final int parties;
        private final int everyone;
        private final int[] nexts = new int[MOST_PARTIES];

        Graph(int parties) {
            this.parties = parties;
            this.everyone = (1 << parties) - 1;
        }

        private boolean holds(int party) {
            return party >= 0 && party < parties;
        }

        void join(int from, int to) {
            if (holds(from) && holds(to)) {
                nexts[from] |= 1 << to;
            }
        }

        boolean joins(int from, int to) {
            return holds(from) && holds(to) && ((nexts[from] >> to) & 1) == 1;
        }

        /** An empty row is no path. */
        boolean isPath(int row) {
            int size = Row.size(row);
            int seen = 0;
            for (int k = 0; k < size; k++) {
                int party = Row.party(row, k);
                boolean fresh = holds(party) && ((seen >> party) & 1) == 0;
                if (!fresh || (k > 0 && !joins(Row.party(row, k - 1), party))) {
                    return false;
                }
                seen |= 1 << party;
            }
            return size > 0;
        }

        /** With two parties or more, paths from each to each other one give each party an arc too. */
        boolean isStrong() {
            for (int party = 0; party < parties; party++) {
                if (reach(party) != everyone) {
                    return false;
                }
            }
            return true;
        }

        private int reach(int from) {
            int reached = 1 << from;
            for (int round = 1; round < parties; round++) {
                for (int party = 0; party < parties; party++) {
                    if (((reached >> party) & 1) == 1) {
                        reached |= nexts[party];
                    }
                }
            }
            return reached;
        }

        /** Sets come by their sums, so of equally small ones the first one found is the one that is due. */
        int fewestLeaders() {
            int best = everyone;
            for (int set = 0; set < everyone; set++) {
                if (Integer.bitCount(set) < Integer.bitCount(best) && endsAllWalks(everyone & ~set)) {
                    best = set;
                }
            }
            return best;
        }

        /** Takes away parties that have no arc to one that is left: what closed walks go through stays. */
        private boolean endsAllWalks(int set) {
            int left = set;
            for (int round = 0; round < parties; round++) {
                for (int party = 0; party < parties; party++) {
                    if ((nexts[party] & left) == 0) {
                        left &= ~(1 << party);
                    }
                }
            }
            return left == 0;
        }

        int longestPath() {
            int longest = 0;
            for (int party = 0; party < parties; party++) {
                longest = Math.max(longest, longestFrom(nexts, party, 1 << party, 1));
            }
            return longest;
        }

        /** The row so far ends with the party at, its parties are seen, and there are size of them. */
        private static int longestFrom(int[] nexts, int at, int seen, int size) {
            int longest = 0;
            if (size >= MOST_PARTIES) {
                return longest;
            }
            for (int next = 0; next < MOST_PARTIES; next++) {
                if ((nexts[at] & ~seen & (1 << next)) != 0) {
                    longest = Math.max(longest, 1 + longestFrom(nexts, next, seen | 1 << next, size + 1));
                }
            }
            return longest;
        }
    }
}
