/** Promises 8 to 13 at their edges: a test for each sentence that names one. */
public final class EdgeContractTest {
    private static final Check CHECK = new Check("EdgeContractTest");
    /** Leaders 0 and 2; on each arc two locks. */
    private static final String TWO_LEAD = "01 10 12 21 23 32";

    public static void main(String[] args) {
        deployNoSuchArc();
        deployNoPlan();
        deployNotHeld();
        deployWhetherItConforms();
        deployAtAnyTime();
        stepNoSuchParty();
        stepSixAreThere();
        stepAnyRow();
        showNoSuchArc();
        showEmptyRow();
        showFullRow();
        showNotFromThePayee();
        showNotToALeader();
        showMissingArc();
        showPartyTwice();
        showWithoutPlan();
        showNotInEscrow();
        showLockOpen();
        showInTime();
        showLeaderAlone();
        showWithoutItsFirst();
        showOnAnyContract();
        showCountsLocks();
        showPaysAtTheLastLock();
        showEmptiesTheRow();
        clearEmptyAndFull();
        backNoSuchArc();
        backNotInEscrow();
        backTooEarly();
        backWithOpenLocks();
        passTooLittleOrTooMuch();
        passLeastAndMost();
        passTheTime();
        CHECK.end();
    }

    /** So many arcs among six parties, no plan. */
    private static SwapDesk withArcs(int count) {
        String arcs = Desks.FOURTEEN.substring(0, Math.max(3 * count - 1, 0));
        return Desks.drawn(6, 2, arcs);
    }

    private static SwapDesk begun(int n, int d, int begin) {
        SwapDesk desk = Desks.drawn(n, d, Desks.ring(n));
        desk.pass(begin);
        desk.plan();
        Desks.deployAll(desk, n);
        return desk;
    }

    private static void deployNoSuchArc() {
        CHECK.says("8: IndexOutOfBoundsException if there is no such arc");
        for (int count = 0; count <= 14; count++) {
            for (int none : Desks.outside(count)) {
                SwapDesk desk = withArcs(count);
                CHECK.dueThrow("deploy(" + none + ") of " + count, Desks.INDEX, () -> desk.deploy(none));
            }
        }
        for (int none : Desks.outside(14)) {
            SwapDesk desk = Desks.planned(6, 2, Desks.FOURTEEN);
            CHECK.dueThrow("deploy(" + none + ") with a plan", Desks.INDEX, () -> desk.deploy(none));
            CHECK.tell("all are held", Desks.states(desk, 14), "00000000000000");
        }
    }

    private static void deployNoPlan() {
        CHECK.says("8: IllegalStateException if there is no plan");
        for (int count = 1; count <= 14; count++) {
            SwapDesk desk = withArcs(count);
            for (int arc = 0; arc < count; arc++) {
                int one = arc;
                CHECK.dueThrow("deploy(" + arc + ") of " + count, Desks.STATE, () -> desk.deploy(one));
                CHECK.due("held", desk.state(arc), 0);
            }
        }
        SwapDesk refused = Desks.drawn(3, 2, "01 12");
        CHECK.dueThrow("a plan that is refused", Desks.STATE, refused::plan);
        CHECK.dueThrow("is no plan", Desks.STATE, () -> refused.deploy(0));
    }

    private static void deployNotHeld() {
        CHECK.says("8: IllegalStateException if .. the asset is not held");
        SwapDesk desk = Desks.planned(3, 2, Desks.ring(3));
        Desks.deployAll(desk, 3);
        CHECK.dueThrow("in escrow", Desks.STATE, () -> desk.deploy(0));
        Desks.show(desk, 2, "0");
        CHECK.dueThrow("paid", Desks.STATE, () -> desk.deploy(2));
        desk.pass(8);
        desk.back(1);
        CHECK.dueThrow("back", Desks.STATE, () -> desk.deploy(1));
        CHECK.tell("as they were", Desks.states(desk, 3), "132");
    }

    private static void deployWhetherItConforms() {
        CHECK.says("8: The payer of an arc deploys its contract (whether it conforms or not)");
        SwapDesk desk = Desks.planned(6, 2, Desks.FOURTEEN);
        for (int party = 0; party < 6; party += 2) {
            desk.conform(party, false);
        }
        Desks.deployAll(desk, 14);
        CHECK.tell("all of them", Desks.states(desk, 14), "11111111111111");
    }

    private static void deployAtAnyTime() {
        CHECK.says("8: no time is named");
        for (int after : new int[] {0, 3, 4, 7, 8, 9, 100}) {
            SwapDesk desk = Desks.planned(3, 2, Desks.ring(3));
            desk.pass(after);
            Desks.deployAll(desk, 3);
            CHECK.tell("at " + after, Desks.states(desk, 3), "111");
        }
    }

    private static void stepNoSuchParty() {
        CHECK.says("9: -1, refused, if there is no such party");
        for (int n = 2; n <= 6; n++) {
            for (int none : Desks.outside(n)) {
                SwapDesk desk = new SwapDesk(n - 2, 0);
                CHECK.due("step(" + none + ") first", desk.step(none), -1);
                CHECK.due("the last party", desk.step(n - 1), 1);
                CHECK.due("step(" + none + ") second", desk.step(none), -1);
                CHECK.due("the first party", desk.step(0), 2);
            }
        }
    }

    private static void stepSixAreThere() {
        CHECK.says("9: -1, refused, if .. 6 are there (at most 6)");
        for (int n = 2; n <= 6; n++) {
            SwapDesk desk = new SwapDesk(n - 2, 0);
            for (int k = 1; k <= 6; k++) {
                CHECK.due("step " + k, desk.step(k % n), k);
            }
            for (int party = 0; party < n; party++) {
                CHECK.due("a seventh", desk.step(party), -1);
            }
            CHECK.due("a seventh that is no party", desk.step(n), -1);
            CHECK.due("a seventh far off", desk.step(Integer.MIN_VALUE), -1);
        }
    }

    private static void stepAnyRow() {
        CHECK.says("9: Appends a party to the path at hand (which is a row, 10)");
        for (int party = 0; party < 6; party++) {
            SwapDesk desk = new SwapDesk(4, 0);
            for (int k = 1; k <= 6; k++) {
                CHECK.due("the same party again and again", desk.step(party), k);
            }
        }
    }

    private static void showNoSuchArc() {
        CHECK.says("10: IndexOutOfBoundsException if there is no such arc");
        for (int count = 0; count <= 14; count++) {
            for (int none : Desks.outside(count)) {
                SwapDesk desk = withArcs(count);
                CHECK.dueThrow("show(" + none + ") of " + count, Desks.INDEX, () -> desk.show(none));
            }
        }
        for (int none : Desks.outside(14)) {
            SwapDesk desk = Desks.deployed(6, 2, Desks.FOURTEEN);
            Desks.lay(desk, "0");
            CHECK.dueThrow("show(" + none + ") with a plan", Desks.INDEX, () -> desk.show(none));
            CHECK.due("the row stays", desk.show(5), 1);
        }
    }

    private static void noPath(SwapDesk desk, int arc, String row) {
        Desks.lay(desk, row);
        CHECK.dueThrow("show(" + arc + ") of '" + row + "'", Desks.ARGUMENT, () -> desk.show(arc));
        CHECK.due("the row stays", desk.step(0), row.length() == 6 ? -1 : row.length() + 1);
    }

    private static void showEmptyRow() {
        CHECK.says("10: IllegalArgumentException if the row is no path (empty)");
        for (int n = 2; n <= 6; n++) {
            for (int arc = 0; arc < n; arc++) {
                noPath(Desks.deployed(n, 9, Desks.ring(n)), arc, "");
            }
        }
        SwapDesk after = Desks.deployed(2, 9, "01 10");
        Desks.show(after, 1, "0");
        CHECK.dueThrow("empty after it was shown", Desks.ARGUMENT, () -> after.show(0));
    }

    private static void showFullRow() {
        CHECK.says("10: the path at hand, which is a row of parties (full)");
        SwapDesk desk = Desks.deployed(6, 9, Desks.ring(6));
        for (int length = 0; length < 5; length++) {
            Desks.show(desk, 5 - length, Desks.ringPath(6, length));
        }
        noPath(desk, 0, "123455");
        noPath(desk, 0, "123400");
        noPath(desk, 0, "012345");
        noPath(desk, 0, "111111");
        noPath(desk, 0, "543210");
        Desks.lay(desk, "123450");
        CHECK.due("a seventh is refused", desk.step(0), -1);
        CHECK.due("a path of six parties", desk.show(0), 1);
        CHECK.tell("it opened the lock", Desks.key(desk, 0, 0), "123450");
        CHECK.due("paid", desk.state(0), 2);
    }

    private static void showNotFromThePayee() {
        CHECK.says("10: IllegalArgumentException if the row is no path from the payee");
        SwapDesk desk = Desks.deployed(4, 9, TWO_LEAD);
        Desks.show(desk, 1, "0");
        noPath(desk, 0, "0");
        noPath(desk, 2, "0");
        noPath(desk, 2, "10");
        noPath(desk, 3, "210");
        noPath(desk, 4, "2");
        noPath(desk, 5, "32");
        CHECK.due("from the payee", Desks.show(desk, 3, "10"), 1);
    }

    private static void showNotToALeader() {
        CHECK.says("10: IllegalArgumentException if the row is no path .. to a leader");
        SwapDesk desk = Desks.deployed(4, 9, TWO_LEAD);
        noPath(desk, 0, "1");
        noPath(desk, 4, "3");
        noPath(desk, 1, "01");
        noPath(desk, 2, "21");
        noPath(desk, 2, "23");
        noPath(desk, 1, "0123");
        CHECK.due("to a leader", Desks.show(desk, 2, "2"), 1);
    }

    private static void showMissingArc() {
        CHECK.says("Terms: A PATH is a row .. each of which has an arc to the next one");
        SwapDesk ring = Desks.deployed(4, 9, Desks.ring(4));
        Desks.show(ring, 3, "0");
        noPath(ring, 0, "10");
        noPath(ring, 1, "20");
        noPath(ring, 0, "130");
        noPath(ring, 0, "1320");
        SwapDesk two = Desks.deployed(4, 9, TWO_LEAD);
        Desks.show(two, 1, "0");
        noPath(two, 2, "20");
        noPath(two, 4, "30");
        noPath(two, 1, "02");
    }

    private static void showPartyTwice() {
        CHECK.says("Terms: A PATH is a row of different parties");
        SwapDesk desk = Desks.deployed(4, 9, TWO_LEAD);
        Desks.show(desk, 1, "0");
        Desks.show(desk, 3, "10");
        noPath(desk, 0, "1010");
        noPath(desk, 2, "22");
        noPath(desk, 1, "00");
        noPath(desk, 1, "010");
        noPath(desk, 2, "21210");
        noPath(desk, 2, "23210");
        noPath(desk, 0, "110");
        noPath(desk, 0, "100");
        noPath(desk, 0, "121210");
        CHECK.due("without the detour", Desks.show(desk, 0, "10"), 1);
    }

    private static void showWithoutPlan() {
        CHECK.says("10: (Without a plan there are no leaders.)");
        for (String row : new String[] {"", "0", "1", "01", "10", "00", "010101"}) {
            SwapDesk desk = Desks.drawn(2, 2, "01 10");
            Desks.lay(desk, row);
            CHECK.dueThrow("show(0) of '" + row + "'", Desks.ARGUMENT, () -> desk.show(0));
            CHECK.dueThrow("show(1) of '" + row + "'", Desks.ARGUMENT, () -> desk.show(1));
        }
    }

    private static void showNotInEscrow() {
        CHECK.says("10: IllegalStateException if .. the asset is not in escrow");
        SwapDesk desk = Desks.planned(3, 2, Desks.ring(3));
        Desks.lay(desk, "0");
        CHECK.dueThrow("held", Desks.STATE, () -> desk.show(2));
        desk.deploy(2);
        CHECK.due("in escrow, and the row has stayed", desk.show(2), 1);
        Desks.lay(desk, "0");
        CHECK.dueThrow("paid", Desks.STATE, () -> desk.show(2));
        SwapDesk gone = Desks.deployed(4, 2, TWO_LEAD);
        Desks.show(gone, 1, "0");
        gone.pass(12);
        gone.back(1);
        Desks.lay(gone, "012");
        CHECK.dueThrow("back, its other lock", Desks.STATE, () -> gone.show(1));
        CHECK.due("one lock is open still", gone.open(1), 1);
    }

    private static void showLockOpen() {
        CHECK.says("10: IllegalStateException if .. the lock is open");
        SwapDesk desk = Desks.deployed(4, 9, "01 10 12 21 23 32 02 20");
        CHECK.due("leaders", desk.leaders(), 5);
        Desks.show(desk, 1, "0");
        Desks.lay(desk, "0");
        CHECK.dueThrow("by the same path", Desks.STATE, () -> desk.show(1));
        Desks.show(desk, 3, "10");
        Desks.show(desk, 2, "20");
        Desks.lay(desk, "210");
        CHECK.dueThrow("by another path that may be shown", Desks.STATE, () -> desk.show(2));
        CHECK.tell("the first path stays with it", Desks.key(desk, 2, 0), "20");
        CHECK.due("in escrow still", desk.state(2), 1);
        CHECK.due("the other lock is not open", Desks.show(desk, 2, "2"), 2);
    }

    private static void showAt(int n, int d, int begin, int length, int after, boolean inTime) {
        SwapDesk desk = begun(n, d, begin);
        for (int shorter = 0; shorter < length; shorter++) {
            Desks.show(desk, n - 1 - shorter, Desks.ringPath(n, shorter));
        }
        desk.pass(after);
        int arc = n - 1 - length;
        String what = "ring of " + n + ", D " + d + ", length " + length + ", at " + begin + " + " + after;
        Desks.lay(desk, Desks.ringPath(n, length));
        if (inTime) {
            CHECK.due(what, desk.show(arc), 1);
        } else {
            CHECK.dueThrow(what, Desks.UNSUPPORTED, () -> desk.show(arc));
        }
        CHECK.due(what + ", the asset", desk.state(arc), inTime ? 2 : 1);
    }

    private static void showInTime() {
        CHECK.says("Terms: It is in time if the time is less than the begin and (span + length) * D");
        for (int n = 2; n <= 6; n++) {
            for (int d = 2; d <= 9; d++) {
                for (int length = 0; length < n; length++) {
                    int end = (n - 1 + length) * d;
                    for (int begin : new int[] {0, 13}) {
                        showAt(n, d, begin, length, 0, true);
                        showAt(n, d, begin, length, end - 1, true);
                        showAt(n, d, begin, length, end, false);
                        showAt(n, d, begin, length, end + 1, false);
                    }
                }
            }
        }
    }

    private static void unknown(SwapDesk desk, int arc, String path) {
        Desks.lay(desk, path);
        CHECK.dueThrow("show(" + arc + ") of " + path, Desks.UNSUPPORTED, () -> desk.show(arc));
        CHECK.due("the row stays", desk.step(0), path.length() == 6 ? -1 : path.length() + 1);
    }

    private static void showLeaderAlone() {
        CHECK.says("Terms: a party may SHOW one that begins with itself if it is the leader alone");
        SwapDesk desk = Desks.planned(4, 9, TWO_LEAD);
        desk.deploy(1);
        desk.deploy(2);
        CHECK.due("0, of which nothing was shown", Desks.show(desk, 1, "0"), 1);
        CHECK.due("2, of which nothing was shown", Desks.show(desk, 2, "2"), 1);
    }

    private static void showWithoutItsFirst() {
        CHECK.says("Terms: or if the same path without its first party has been SHOWN before");
        SwapDesk ring = Desks.deployed(6, 9, Desks.ring(6));
        for (int length = 1; length < 6; length++) {
            unknown(ring, 5 - length, Desks.ringPath(6, length));
        }
        for (int length = 0; length < 6; length++) {
            for (int more = length + 2; more < 6; more++) {
                unknown(ring, 5 - more, Desks.ringPath(6, more));
            }
            CHECK.due("length " + length, Desks.show(ring, 5 - length, Desks.ringPath(6, length)), 1);
        }
        CHECK.tell("all paid", Desks.states(ring, 6), "222222");
        SwapDesk ways = Desks.deployed(4, 9, "01 10 12 21 23 32 02 20");
        Desks.show(ways, 1, "0");
        Desks.show(ways, 3, "10");
        Desks.show(ways, 5, "210");
        unknown(ways, 4, "320");
        CHECK.due("another path from the same party was shown", Desks.show(ways, 4, "3210"), 1);
        unknown(ways, 3, "12");
        SwapDesk longer = Desks.deployed(4, 9, "01 10 12 21 23 32 02 20");
        Desks.show(longer, 1, "0");
        Desks.show(longer, 2, "20");
        unknown(longer, 4, "3210");
        CHECK.due("the shorter one was shown", Desks.show(longer, 4, "320"), 1);
    }

    private static void showOnAnyContract() {
        CHECK.says("Terms: SHOWN before, on any contract (an open lock has it)");
        SwapDesk desk = Desks.deployed(4, 2, "01 02 03 10 20 30 12 23");
        CHECK.due("leader", desk.leaders(), 1);
        unknown(desk, 6, "20");
        Desks.show(desk, 5, "0");
        CHECK.due("0 was shown on 3 0, and paid", Desks.show(desk, 6, "20"), 1);
        CHECK.due("and 2 0 on 1 2, not on an arc from 1", Desks.show(desk, 0, "120"), 1);
        for (int turn = 0; turn < 14; turn++) {
            String arcs = (Desks.FOURTEEN + " " + Desks.FOURTEEN).substring(3 * turn, 3 * turn + 41);
            SwapDesk turned = Desks.deployed(6, 9, arcs);
            unknown(turned, arcs.indexOf("45") / 3, "50");
            Desks.show(turned, arcs.indexOf("50") / 3, "0");
            CHECK.due("shown on one arc alone, of " + arcs, Desks.show(turned, arcs.indexOf("45") / 3, "50"), 1);
        }
        SwapDesk gone = Desks.deployed(4, 9, TWO_LEAD);
        Desks.show(gone, 1, "0");
        gone.pass(53);
        Desks.lay(gone, "10");
        CHECK.dueThrow("too late, though it was shown", Desks.UNSUPPORTED, () -> gone.show(3));
    }

    private static void showCountsLocks() {
        CHECK.says("10: how many locks are open then");
        SwapDesk desk = Desks.deployed(6, 9, "01 10 12 21 23 32 34 43 45 54");
        CHECK.due("leaders", desk.leaders(), 21);
        CHECK.due("0 on 1 0", Desks.show(desk, 1, "0"), 1);
        CHECK.due("2 on 1 2", Desks.show(desk, 2, "2"), 1);
        CHECK.due("4 on 3 4", Desks.show(desk, 6, "4"), 1);
        CHECK.due("1 0 on 2 1", Desks.show(desk, 3, "10"), 1);
        CHECK.due("1 2 on 2 1", Desks.show(desk, 3, "12"), 2);
        CHECK.due("3 4 on 2 3", Desks.show(desk, 4, "34"), 1);
        CHECK.due("2 3 4 on 1 2", Desks.show(desk, 2, "234"), 2);
        CHECK.due("1 2 3 4 on 2 1", Desks.show(desk, 3, "1234"), 3);
    }

    private static void showPaysAtTheLastLock() {
        CHECK.says("Terms: As soon as all locks are open, the asset is paid");
        SwapDesk desk = Desks.deployed(4, 9, TWO_LEAD);
        Desks.show(desk, 2, "2");
        CHECK.due("one of two", desk.state(2), 1);
        Desks.show(desk, 1, "0");
        Desks.show(desk, 3, "10");
        CHECK.due("the other one of two", desk.state(3), 1);
        Desks.show(desk, 2, "210");
        CHECK.due("both of 1 2", desk.state(2), 2);
        Desks.show(desk, 3, "12");
        CHECK.due("both of 2 1", desk.state(3), 2);
        SwapDesk last = Desks.deployed(3, 2, Desks.ring(3));
        Desks.show(last, 2, "0");
        Desks.show(last, 1, "20");
        last.pass(7);
        CHECK.due("at the last time", Desks.show(last, 0, "120"), 1);
        last.pass(1);
        CHECK.dueThrow("paid, so it is not had back", Desks.STATE, () -> last.back(0));
    }

    private static void showEmptiesTheRow() {
        CHECK.says("10: the path at hand is empty then");
        SwapDesk desk = Desks.deployed(3, 9, Desks.ring(3));
        Desks.show(desk, 2, "0");
        CHECK.due("after one party", desk.step(2), 1);
        desk.step(0);
        CHECK.due("2 0, with nothing of the old row", desk.show(1), 1);
        CHECK.dueThrow("empty", Desks.ARGUMENT, () -> desk.show(0));
        CHECK.due("after two", desk.step(1), 1);
    }

    private static void clearEmptyAndFull() {
        CHECK.says("11: The path at hand becomes empty (also an empty one, and a full one)");
        SwapDesk desk = Desks.deployed(2, 9, "01 10");
        for (int length = 0; length <= 8; length++) {
            for (int k = 0; k < length; k++) {
                desk.step(1);
            }
            desk.clear();
            CHECK.due("after " + length, desk.step(0), 1);
            desk.clear();
        }
        CHECK.dueThrow("empty", Desks.ARGUMENT, () -> desk.show(1));
        desk.step(0);
        CHECK.due("nothing of the old rows is left", desk.show(1), 1);
        desk.clear();
        CHECK.tell("what was shown stays", Desks.key(desk, 1, 0), "0");
    }

    private static void backNoSuchArc() {
        CHECK.says("12: IndexOutOfBoundsException if there is no such arc");
        for (int count = 0; count <= 14; count++) {
            for (int none : Desks.outside(count)) {
                SwapDesk desk = withArcs(count);
                CHECK.dueThrow("back(" + none + ") of " + count, Desks.INDEX, () -> desk.back(none));
            }
        }
        for (int none : Desks.outside(14)) {
            SwapDesk desk = Desks.deployed(6, 2, Desks.FOURTEEN);
            desk.pass(100);
            CHECK.dueThrow("back(" + none + ") when it is time", Desks.INDEX, () -> desk.back(none));
            CHECK.tell("all in escrow", Desks.states(desk, 14), "11111111111111");
        }
    }

    private static void backNotInEscrow() {
        CHECK.says("12: IllegalStateException if the asset is not in escrow");
        SwapDesk drawn = Desks.drawn(3, 2, Desks.ring(3));
        drawn.pass(100);
        CHECK.dueThrow("held, no plan", Desks.STATE, () -> drawn.back(0));
        SwapDesk desk = Desks.planned(3, 2, Desks.ring(3));
        desk.deploy(1);
        desk.deploy(2);
        Desks.show(desk, 2, "0");
        desk.pass(100);
        CHECK.dueThrow("held", Desks.STATE, () -> desk.back(0));
        CHECK.dueThrow("paid", Desks.STATE, () -> desk.back(2));
        desk.back(1);
        CHECK.dueThrow("back already", Desks.STATE, () -> desk.back(1));
        CHECK.tell("as they were", Desks.states(desk, 3), "032");
    }

    private static void backTooEarly() {
        CHECK.says("12: UnsupportedOperationException if it is too early (before the begin and 2 * span * D)");
        for (int n = 2; n <= 6; n++) {
            for (int d = 2; d <= 9; d++) {
                backAround(begun(n, d, 0), n - 1, 2 * (n - 1) * d);
                backAround(begun(n, d, 13), n - 1, 2 * (n - 1) * d);
            }
        }
    }

    private static void backAround(SwapDesk desk, int last, int after) {
        CHECK.dueThrow("at once", Desks.UNSUPPORTED, () -> desk.back(0));
        desk.pass(after - 1);
        CHECK.dueThrow("the last that is too early", Desks.UNSUPPORTED, () -> desk.back(last));
        CHECK.due("in escrow", desk.state(last), 1);
        desk.pass(1);
        desk.back(last);
        CHECK.due("the first that is not", desk.state(last), 3);
        desk.pass(1);
        desk.conform(0, false);
        desk.back(0);
        CHECK.due("later, and by one that deviates", desk.state(0), 3);
    }

    private static void backWithOpenLocks() {
        CHECK.says("Terms: Otherwise (not all locks are open) the payer can have it back");
        SwapDesk desk = Desks.deployed(4, 2, TWO_LEAD);
        Desks.show(desk, 1, "0");
        Desks.show(desk, 3, "10");
        Desks.show(desk, 2, "2");
        Desks.show(desk, 2, "210");
        desk.pass(12);
        desk.back(1);
        desk.back(3);
        CHECK.dueThrow("all locks were open", Desks.STATE, () -> desk.back(2));
        CHECK.tell("states", Desks.states(desk, 6), "132311");
        CHECK.due("the lock stays open", desk.open(3), 1);
        CHECK.tell("its path stays with it", Desks.key(desk, 3, 0), "10");
    }

    private static void passTooLittleOrTooMuch() {
        CHECK.says("13: -1, refused, for another number");
        for (int ticks : Desks.outside(101)) {
            SwapDesk desk = new SwapDesk(0, 0);
            CHECK.due("pass(" + ticks + ") at 0", desk.pass(ticks), -1);
            CHECK.due("no time has gone by", desk.pass(7), 7);
            CHECK.due("pass(" + ticks + ") at 7", desk.pass(ticks), -1);
            CHECK.due("no time has gone by again", desk.pass(0), 7);
        }
    }

    private static void passLeastAndMost() {
        CHECK.says("13: The time grows by so much (0 .. 100)");
        for (int ticks = 0; ticks <= 100; ticks++) {
            SwapDesk desk = new SwapDesk(0, 0);
            CHECK.due("pass(" + ticks + ")", desk.pass(ticks), ticks);
            CHECK.due("pass(" + ticks + ") again", desk.pass(ticks), 2 * ticks);
        }
    }

    private static void passTheTime() {
        CHECK.says("13: the time (after as many calls as there may be)");
        SwapDesk desk = new SwapDesk(0, 0);
        for (int call = 1; call <= 512; call++) {
            CHECK.due("call " + call, desk.pass(100), 100 * call);
        }
        SwapDesk late = Desks.drawn(2, 9, "01 10");
        for (int call = 3; call < 480; call++) {
            late.pass(100);
        }
        late.plan();
        late.deploy(0);
        late.pass(17);
        CHECK.dueThrow("a late plan, too early", Desks.UNSUPPORTED, () -> late.back(0));
        late.pass(1);
        late.back(0);
        CHECK.due("a late plan, back", late.state(0), 3);
    }
}
