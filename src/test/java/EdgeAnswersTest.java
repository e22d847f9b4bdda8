/** Promises 14 to 17 at their edges: a test for each sentence that names one. */
public final class EdgeAnswersTest {
    private static final Check CHECK = new Check("EdgeAnswersTest");

    public static void main(String[] args) {
        stateNoSuchArc();
        stateEach();
        openNoSuchArc();
        openNoneAndAll();
        keyNoSuchArc();
        keyLockNotOpen();
        keyNoSuchLeader();
        keyNoSuchPartyInIt();
        keyOfEachLength();
        keyStays();
        outcomeNoSuchParty();
        outcomeNone();
        outcomeEach();
        outcomeAsTheAssetsAre();
        CHECK.end();
    }

    private static SwapDesk withArcs(int count) {
        return Desks.drawn(6, 2, Desks.FOURTEEN.substring(0, Math.max(3 * count - 1, 0)));
    }

    private static void stateNoSuchArc() {
        CHECK.says("14: IndexOutOfBoundsException if there is no such arc");
        for (int count = 0; count <= 14; count++) {
            for (int none : Desks.outside(count)) {
                SwapDesk desk = withArcs(count);
                CHECK.dueThrow("state(" + none + ") of " + count, Desks.INDEX, () -> desk.state(none));
            }
        }
        for (int none : Desks.outside(14)) {
            SwapDesk desk = Desks.planned(6, 2, Desks.FOURTEEN);
            CHECK.dueThrow("state(" + none + ") with a plan", Desks.INDEX, () -> desk.state(none));
        }
    }

    private static void stateEach() {
        CHECK.says("14: What is the state of an arc's asset (0, 1, 2, 3)");
        SwapDesk desk = Desks.drawn(6, 2, Desks.FOURTEEN);
        CHECK.tell("without a plan", Desks.states(desk, 14), "00000000000000");
        desk.plan();
        CHECK.tell("held", Desks.states(desk, 14), "00000000000000");
        desk.deploy(13);
        CHECK.tell("the last in escrow", Desks.states(desk, 14), "00000000000001");
        desk.deploy(0);
        CHECK.tell("the first too", Desks.states(desk, 14), "10000000000001");
        desk.pass(20);
        desk.back(13);
        CHECK.tell("the last back", Desks.states(desk, 14), "10000000000003");
        SwapDesk paid = Desks.planned(6, 9, Desks.FOURTEEN);
        paid.run(40);
        CHECK.tell("paid", Desks.states(paid, 14), "22222222222222");
    }

    private static void openNoSuchArc() {
        CHECK.says("15: IndexOutOfBoundsException if there is no such arc");
        for (int count = 0; count <= 14; count++) {
            for (int none : Desks.outside(count)) {
                SwapDesk desk = withArcs(count);
                CHECK.dueThrow("open(" + none + ") of " + count, Desks.INDEX, () -> desk.open(none));
            }
        }
        for (int none : Desks.outside(14)) {
            SwapDesk desk = Desks.planned(6, 2, Desks.FOURTEEN);
            CHECK.dueThrow("open(" + none + ") with a plan", Desks.INDEX, () -> desk.open(none));
        }
    }

    private static void openNoneAndAll() {
        CHECK.says("15: The open locks of an arc, bit p for leader p");
        SwapDesk desk = Desks.drawn(6, 9, Desks.FOURTEEN);
        for (int arc = 0; arc < 14; arc++) {
            CHECK.due("none without a plan", desk.open(arc), 0);
        }
        desk.plan();
        Desks.deployAll(desk, 14);
        for (int arc = 0; arc < 14; arc++) {
            CHECK.due("none in escrow", desk.open(arc), 0);
        }
        desk.run(40);
        for (int arc = 0; arc < 14; arc++) {
            CHECK.due("all in the end", desk.open(arc), 21);
        }
        // The hub is the last party, so the only lock is bit 5.
        SwapDesk star = Desks.deployed(6, 9, "50 05 51 15 52 25 53 35 54 45");
        star.act(5);
        CHECK.due("bit 5", star.open(1), 32);
    }

    private static void keyNoSuchArc() {
        CHECK.says("16: IndexOutOfBoundsException if there is no such arc");
        for (int count = 0; count <= 14; count++) {
            for (int none : Desks.outside(count)) {
                SwapDesk desk = withArcs(count);
                CHECK.dueThrow("key(" + none + ", 0, 0) of " + count, Desks.INDEX, () -> desk.key(none, 0, 0));
                CHECK.dueThrow("key(" + none + ", -1, 0)", Desks.INDEX, () -> desk.key(none, -1, 0));
                CHECK.dueThrow("key(" + none + ", 0, -1)", Desks.INDEX, () -> desk.key(none, 0, -1));
                CHECK.dueThrow("key(" + none + ", far, far)", Desks.INDEX,
                    () -> desk.key(none, Integer.MAX_VALUE, Integer.MIN_VALUE));
            }
        }
    }

    /** Leaders 0 and 2; arc 3 (2 1) has the lock of 0 open by 1 0, arc 5 (3 2) both, by 2 1 0 and 2. */
    private static SwapDesk locks() {
        SwapDesk desk = Desks.deployed(4, 9, "01 10 12 21 23 32");
        Desks.show(desk, 1, "0");
        Desks.show(desk, 3, "10");
        Desks.show(desk, 5, "210");
        Desks.show(desk, 5, "2");
        return desk;
    }

    private static void keyLockNotOpen() {
        CHECK.says("16: -1 if the lock is not open");
        for (int k = 0; k < 6; k++) {
            SwapDesk desk = locks();
            CHECK.due("none of its locks is open", desk.key(0, 0, k), -1);
            CHECK.due("another one of its locks is open", desk.key(3, 2, k), -1);
            SwapDesk drawn = Desks.drawn(2, 2, "01 10");
            for (int leader = 0; leader < 2; leader++) {
                CHECK.due("there is no plan", drawn.key(0, leader, k), -1);
            }
        }
    }

    private static void keyNoSuchLeader() {
        CHECK.says("16: a leader's lock (of one that does not lead there is none open)");
        for (int arc = 0; arc < 6; arc++) {
            for (int none : Desks.outside(4)) {
                SwapDesk desk = locks();
                for (int k = 0; k < 6; k++) {
                    CHECK.due("key(" + arc + ", " + none + ", " + k + ")", desk.key(arc, none, k), -1);
                }
            }
            SwapDesk desk = locks();
            for (int k = -1; k < 7; k++) {
                CHECK.due("1 does not lead", desk.key(arc, 1, k), -1);
                CHECK.due("3 does not lead", desk.key(arc, 3, k), -1);
            }
        }
    }

    private static void keyNoSuchPartyInIt() {
        CHECK.says("16: -1 if .. there is no such party in it");
        SwapDesk desk = locks();
        CHECK.due("the last of 2 1 0", desk.key(5, 0, 2), 0);
        CHECK.due("one more", desk.key(5, 0, 3), -1);
        CHECK.due("the only one of 2", desk.key(5, 2, 0), 2);
        CHECK.due("one more than one", desk.key(5, 2, 1), -1);
        for (int none : Desks.outside(3)) {
            CHECK.due("key(5, 0, " + none + ")", locks().key(5, 0, none), -1);
        }
        for (int none : Desks.outside(1)) {
            CHECK.due("key(5, 2, " + none + ")", locks().key(5, 2, none), -1);
        }
        SwapDesk ring = Desks.planned(6, 9, Desks.ring(6));
        ring.run(40);
        CHECK.due("the sixth of six", ring.key(0, 0, 5), 0);
        for (int none : Desks.outside(6)) {
            SwapDesk whole = Desks.planned(6, 9, Desks.ring(6));
            whole.run(40);
            CHECK.due("key(0, 0, " + none + ") of six", whole.key(0, 0, none), -1);
        }
    }

    private static void keyOfEachLength() {
        CHECK.says("16: The k-th party (from 0) of the path with which a leader's lock of an arc was opened");
        SwapDesk ring = Desks.planned(6, 9, Desks.ring(6));
        ring.run(40);
        for (int length = 0; length < 6; length++) {
            String path = Desks.ringPath(6, length);
            for (int k = 0; k < path.length(); k++) {
                CHECK.due("party " + k + " of " + path, ring.key(5 - length, 0, k), path.charAt(k) - '0');
            }
            CHECK.due("behind " + path, ring.key(5 - length, 0, path.length()), -1);
        }
    }

    private static void keyStays() {
        CHECK.says("Terms: a path from the payee to the leader (it stays with the open lock)");
        SwapDesk desk = locks();
        desk.clear();
        desk.step(3);
        desk.run(40);
        desk.pass(100);
        desk.run(1);
        CHECK.tell("paid", Desks.key(desk, 5, 0), "210");
        SwapDesk gone = locks();
        gone.pass(54);
        gone.back(3);
        CHECK.due("back", gone.state(3), 3);
        CHECK.tell("back with its payer", Desks.key(gone, 3, 0), "10");
        CHECK.due("open still", gone.open(3), 1);
    }

    private static void outcomeNoSuchParty() {
        CHECK.says("17: IndexOutOfBoundsException if there is no such party");
        for (int n = 2; n <= 6; n++) {
            for (int none : Desks.outside(n)) {
                SwapDesk bare = new SwapDesk(n - 2, 0);
                CHECK.dueThrow("outcome(" + none + ") of " + n, Desks.INDEX, () -> bare.outcome(none));
                SwapDesk desk = Desks.planned(n, 2, Desks.ring(n));
                CHECK.dueThrow("outcome(" + none + ") with a plan", Desks.INDEX, () -> desk.outcome(none));
            }
        }
    }

    private static void outcomeNone() {
        CHECK.says("Terms: 0 NO DEAL: none (also of a party without arcs)");
        for (int n = 2; n <= 6; n++) {
            SwapDesk bare = new SwapDesk(n - 2, 0);
            SwapDesk lone = Desks.drawn(n, 2, "01");
            SwapDesk planned = Desks.planned(n, 2, Desks.ring(n));
            SwapDesk escrow = Desks.deployed(n, 2, Desks.ring(n));
            SwapDesk gone = Desks.deployed(n, 2, Desks.ring(n));
            gone.pass(100);
            gone.run(1);
            for (int party = 0; party < n; party++) {
                CHECK.due("no arcs", bare.outcome(party), 0);
                CHECK.due("one arc", lone.outcome(party), 0);
                CHECK.due("all held", planned.outcome(party), 0);
                CHECK.due("all in escrow", escrow.outcome(party), 0);
                CHECK.due("all back", gone.outcome(party), 0);
            }
        }
    }

    /** Party 5 follows; two arcs go from it, to 1 and 2, and two to it, from 3 and 4. So many of them are paid. */
    private static SwapDesk follower(int to, int from) {
        SwapDesk desk = Desks.deployed(6, 2, "51 52 10 20 03 04 35 45 01");
        CHECK.due("leader", desk.leaders(), 1);
        Desks.show(desk, 2, "0");
        Desks.show(desk, 8, "10");
        for (int k = 0; k < to; k++) {
            Desks.show(desk, 6 + k, "510");
        }
        if (from > 0) {
            Desks.show(desk, 1, "20");
        }
        if (from > 1) {
            Desks.show(desk, 0, "10");
        }
        return desk;
    }

    private static void outcomeEach() {
        CHECK.says("Terms: 1 DEAL, 2 DISCOUNT, 3 FREE RIDE, 4 UNDERWATER");
        int[][] due = {{0, 4, 4}, {3, 4, 4}, {2, 2, 1}};
        for (int to = 0; to <= 2; to++) {
            for (int from = 0; from <= 2; from++) {
                SwapDesk desk = follower(to, from);
                String what = to + " of 2 to it, " + from + " of 2 from it";
                CHECK.due(what, desk.outcome(5), due[to][from]);
                desk.pass(100);
                desk.run(1);
                CHECK.due(what + ", the others back", desk.outcome(5), due[to][from]);
            }
        }
    }

    private static void outcomeAsTheAssetsAre() {
        CHECK.says("17: The outcome of a party, as the assets are now");
        SwapDesk desk = Desks.deployed(2, 2, "01 10");
        CHECK.due("nothing is paid, 0", desk.outcome(0), 0);
        CHECK.due("nothing is paid, 1", desk.outcome(1), 0);
        Desks.show(desk, 1, "0");
        CHECK.due("one is paid, 0", desk.outcome(0), 2);
        CHECK.due("one is paid, 1", desk.outcome(1), 4);
        Desks.show(desk, 0, "10");
        CHECK.due("both are paid, 0", desk.outcome(0), 1);
        CHECK.due("both are paid, 1", desk.outcome(1), 1);
        SwapDesk full = Desks.planned(6, 9, Desks.FOURTEEN);
        for (int party = 0; party < 6; party++) {
            CHECK.due("14 arcs, all held", full.outcome(party), 0);
        }
        full.run(40);
        for (int party = 0; party < 6; party++) {
            CHECK.due("14 arcs, all paid", full.outcome(party), 1);
        }
        SwapDesk part = Desks.deployed(4, 9, "01 10 12 21 23 32");
        Desks.show(part, 1, "0");
        CHECK.due("one lock of two is not paid", part.outcome(0), 0);
    }
}
