/** Promises 5 to 7: conform, act, run. */
public final class ActTest {
    private static final Check CHECK = new Check("ActTest");

    public static void main(String[] args) {
        conform();
        conformMatters();
        actWrong();
        actDeploys();
        actDeploysUntilTheEnd();
        leaderShowsItself();
        leaderShowsInTime();
        actPassesOnTheShortest();
        actPassesOnTheFirstOfEqual();
        actLeavesOutPathsWithItself();
        actPassesOnInTime();
        actTakesTheShortestThoughLate();
        actTakesBack();
        actDoesAllInOrder();
        runTimes();
        runWithoutPlan();
        runByNumber();
        runToTheEnd();
        runFourteenArcs();
        CHECK.end();
    }

    private static void conform() {
        SwapDesk desk = new SwapDesk(1, 0);
        CHECK.due("conforms already", desk.conform(0, true), false);
        CHECK.due("deviates now", desk.conform(0, false), true);
        CHECK.due("deviates already", desk.conform(0, false), false);
        CHECK.due("conforms again", desk.conform(0, true), true);
        CHECK.due("conforms already again", desk.conform(0, true), false);
        CHECK.due("the last party", desk.conform(2, false), true);
        int[] none = {-1, 3, 5, 6, 32, 31, 33, Integer.MAX_VALUE, Integer.MIN_VALUE};
        for (int party : none) {
            CHECK.due("conform(" + party + ", false)", desk.conform(party, false), false);
            CHECK.due("conform(" + party + ", true)", desk.conform(party, true), false);
        }
        CHECK.due("party 1 is as before", desk.conform(1, false), true);
        CHECK.due("party 2 is as before", desk.conform(2, true), true);
    }

    private static void conformMatters() {
        SwapDesk desk = Desks.drawn(3, 2, "01 12 20");
        desk.conform(0, false);
        desk.plan();
        CHECK.due("only the leader could begin", desk.run(1), 0);
        CHECK.dueThrow("it deviates", Desks.UNSUPPORTED, () -> desk.act(0));
        desk.conform(0, true);
        CHECK.due("it conforms again", desk.act(0), 1);
    }

    private static void actWrong() {
        SwapDesk desk = Desks.drawn(3, 2, "01 12 20");
        desk.conform(1, false);
        for (int party : new int[] {-1, 3, 32, Integer.MAX_VALUE, Integer.MIN_VALUE}) {
            CHECK.dueThrow("no plan, no such party", Desks.ARGUMENT, () -> desk.act(party));
        }
        CHECK.dueThrow("no plan", Desks.STATE, () -> desk.act(0));
        CHECK.dueThrow("no plan, and deviates", Desks.STATE, () -> desk.act(1));
        desk.plan();
        CHECK.dueThrow("deviates", Desks.UNSUPPORTED, () -> desk.act(1));
        CHECK.dueThrow("no such party", Desks.ARGUMENT, () -> desk.act(3));
        CHECK.tell("nothing was done", Desks.states(desk, 3), "000");
    }

    private static void actDeploys() {
        SwapDesk desk = Desks.planned(4, 2, "01 02 13 23 30 31");
        CHECK.due("leaders", desk.leaders(), 8);
        CHECK.due("a follower waits", desk.act(0), 0);
        CHECK.due("the leader deploys", desk.act(3), 2);
        CHECK.tell("its arcs", Desks.states(desk, 6), "000011");
        CHECK.due("a follower with one arc of two", desk.act(1), 0);
        CHECK.due("a follower with all", desk.act(0), 2);
        CHECK.due("not twice", desk.act(0), 0);
        CHECK.due("a follower with two of two", desk.act(1), 1);
        desk.deploy(3);
        CHECK.due("what is deployed already is no deed", desk.act(2), 0);
        CHECK.tell("all of them", Desks.states(desk, 6), "111111");
        SwapDesk paid = Desks.planned(3, 2, "01 10 02 20 12");
        CHECK.due("leaders", paid.leaders(), 1);
        paid.deploy(0);
        paid.deploy(3);
        Desks.show(paid, 3, "0");
        Desks.show(paid, 0, "10");
        CHECK.due("a follower to whom an arc is paid", paid.act(1), 2);
        SwapDesk half = Desks.planned(3, 2, "10 01 02 20");
        CHECK.due("leaders", half.leaders(), 1);
        half.deploy(0);
        half.deploy(1);
        CHECK.due("a leader shows nothing before all arcs to it are there", half.act(0), 1);
        CHECK.due("no lock is open", half.open(0), 0);
    }

    private static void actDeploysUntilTheEnd() {
        SwapDesk desk = Desks.drawn(3, 3, "01 12 20");
        desk.pass(7);
        desk.plan();
        desk.pass(11);
        CHECK.due("just in time", desk.act(0), 1);
        desk.pass(1);
        CHECK.due("at 2 * span * D nobody deploys", desk.act(1), 0);
        CHECK.due("held still", desk.state(1), 0);
        CHECK.due("but it is taken back", desk.act(0), 1);
        SwapDesk late = Desks.planned(3, 3, "01 12 20");
        late.pass(100);
        CHECK.due("a leader neither", late.act(0), 0);
        CHECK.tell("all held", Desks.states(late, 3), "000");
    }

    private static void leaderShowsItself() {
        SwapDesk desk = Desks.planned(4, 2, "01 10 12 21 23 32");
        CHECK.due("leaders 0 and 2", desk.leaders(), 5);
        for (int arc = 0; arc < 6; arc++) {
            desk.deploy(arc);
        }
        CHECK.due("one arc to it", desk.act(0), 1);
        CHECK.due("its own lock", desk.open(1), 1);
        CHECK.due("one lock of two", desk.state(1), 1);
        CHECK.due("not twice", desk.act(0), 0);
        CHECK.tell("itself alone", Desks.key(desk, 1, 0), "0");
        Desks.show(desk, 2, "2");
        CHECK.due("where it is open already it is not shown", desk.act(2), 1);
        CHECK.due("the other arc to it", desk.open(5), 4);
    }

    private static void leaderShowsInTime() {
        SwapDesk desk = Desks.drawn(3, 2, "01 12 20");
        desk.pass(1);
        desk.plan();
        for (int arc = 0; arc < 3; arc++) {
            desk.deploy(arc);
        }
        desk.pass(4);
        CHECK.due("too late at span * D", desk.act(0), 0);
        SwapDesk early = Desks.planned(3, 2, "01 12 20");
        for (int arc = 0; arc < 3; arc++) {
            early.deploy(arc);
        }
        early.pass(3);
        CHECK.due("in time before", early.act(0), 1);
        CHECK.due("paid", early.state(2), 2);
    }

    /** Party 0 leads; party 3 hears of its key over arc 0 (3 1) by 1-2-0 and over arc 1 (3 2) by 2-0. */
    private static SwapDesk heard(String arcs) {
        SwapDesk desk = Desks.planned(4, 2, arcs);
        CHECK.due("leaders of " + arcs, desk.leaders(), 1);
        int count = (arcs.length() + 1) / 3;
        for (int arc = 0; arc < count; arc++) {
            desk.deploy(arc);
        }
        return desk;
    }

    private static void actPassesOnTheShortest() {
        SwapDesk desk = heard("31 32 12 20 10 03");
        Desks.show(desk, 3, "0");
        Desks.show(desk, 2, "20");
        Desks.show(desk, 0, "120");
        CHECK.due("party 3 hears of the long path first", desk.state(0), 2);
        Desks.show(desk, 1, "20");
        CHECK.due("one arc to it", desk.act(3), 1);
        CHECK.tell("by the shortest", Desks.key(desk, 5, 0), "320");
        SwapDesk alone = heard("31 32 12 20 10 03");
        Desks.show(alone, 3, "0");
        Desks.show(alone, 2, "20");
        Desks.show(alone, 0, "120");
        alone.act(3);
        CHECK.tell("by the only one", Desks.key(alone, 5, 0), "3120");
    }

    private static void actPassesOnTheFirstOfEqual() {
        String[] arcs = {"31 32 10 20 03", "32 31 10 20 03"};
        String[] due = {"310", "320"};
        for (int i = 0; i < 2; i++) {
            SwapDesk desk = heard(arcs[i]);
            desk.act(0);
            desk.act(2);
            desk.act(1);
            CHECK.due("both arcs from it are paid", desk.state(0) + desk.state(1), 4);
            CHECK.due("one arc to it", desk.act(3), 1);
            CHECK.tell("of equal ones the first of " + arcs[i], Desks.key(desk, 4, 0), due[i]);
        }
    }

    private static void actLeavesOutPathsWithItself() {
        SwapDesk desk = Desks.planned(3, 9, "10 20 21 12 01 02");
        CHECK.due("leaders 0 and 1", desk.leaders(), 3);
        desk.deploy(1);
        Desks.show(desk, 1, "0");
        desk.deploy(2);
        Desks.show(desk, 2, "10");
        desk.deploy(3);
        Desks.show(desk, 3, "210");
        desk.deploy(4);
        CHECK.due("1 deploys 1 0, shows itself twice, and makes nothing of 2 1 0", desk.act(1), 3);
        CHECK.due("its own lock alone", desk.open(4), 2);
        Desks.show(desk, 0, "0");
        CHECK.due("1 hears of it over an arc from it", desk.act(1), 1);
        CHECK.tell("without a detour", Desks.key(desk, 4, 0), "10");
    }

    private static void actPassesOnInTime() {
        for (int late = 0; late < 2; late++) {
            SwapDesk desk = Desks.planned(3, 2, "01 12 20");
            for (int arc = 0; arc < 3; arc++) {
                desk.deploy(arc);
            }
            desk.pass(3);
            desk.act(0);
            desk.pass(2 + late);
            CHECK.due("2 shows 2 0 before 3 * D", desk.act(2), 1 - late);
            CHECK.due("arc 1", desk.state(1), 2 - late);
        }
    }

    private static void actTakesTheShortestThoughLate() {
        // Span 3, D 2: 2 0 made longer by 3 is in time before 10, 1 2 0 made longer before 12.
        SwapDesk desk = heard("31 32 12 20 10 03");
        Desks.show(desk, 3, "0");
        Desks.show(desk, 2, "20");
        Desks.show(desk, 0, "120");
        Desks.show(desk, 1, "20");
        desk.pass(10);
        CHECK.due("the shortest is too late, and no other is tried", desk.act(3), 0);
        CHECK.due("arc 5", desk.open(5), 0);
        CHECK.due("by hand the longer one is in time", Desks.show(desk, 5, "3120"), 1);
    }

    private static void actTakesBack() {
        SwapDesk desk = Desks.planned(3, 2, "01 02 10 20");
        CHECK.due("leader", desk.leaders(), 1);
        for (int arc = 0; arc < 4; arc++) {
            desk.deploy(arc);
        }
        Desks.show(desk, 2, "0");
        Desks.show(desk, 0, "10");
        desk.pass(7);
        CHECK.due("not yet", desk.act(2), 0);
        CHECK.due("not yet for 0", desk.act(0), 0);
        desk.pass(1);
        CHECK.due("what is not paid", desk.act(0), 1);
        CHECK.due("all of its own", desk.act(2), 1);
        CHECK.due("nothing left", desk.act(1), 0);
        CHECK.tell("paid stays paid", Desks.states(desk, 4), "2323");
        CHECK.due("not twice", desk.act(0), 0);
    }

    private static void actDoesAllInOrder() {
        // In one act the leader deploys, shows itself on each arc to it, and passes on the other leader's key.
        SwapDesk desk = Desks.planned(4, 9, "01 10 12 21 23 32");
        desk.deploy(1);
        desk.deploy(2);
        desk.deploy(3);
        desk.deploy(5);
        Desks.show(desk, 2, "2");
        Desks.show(desk, 5, "2");
        desk.deploy(0);
        Desks.show(desk, 0, "12");
        CHECK.due("shows 0, then 0 1 2", desk.act(0), 2);
        CHECK.due("paid", desk.state(1), 2);
        CHECK.tell("its own", Desks.key(desk, 1, 0), "0");
        CHECK.tell("the other's", Desks.key(desk, 1, 2), "012");
        CHECK.due("deploys 4", desk.act(2), 1);
        CHECK.due("passes 0 on twice and 2 once", desk.act(1), 3);
        CHECK.tell("after all this", Desks.states(desk, 6), "221211");
    }

    private static void runTimes() {
        SwapDesk desk = Desks.planned(3, 9, "01 12 20");
        for (int times : new int[] {-1, 41, 100, Integer.MAX_VALUE, Integer.MIN_VALUE}) {
            CHECK.dueThrow("run(" + times + ")", Desks.ARGUMENT, () -> desk.run(times));
        }
        CHECK.due("no time has gone by", desk.pass(0), 0);
        CHECK.tell("nothing was done", Desks.states(desk, 3), "000");
        CHECK.due("no times", desk.run(0), 0);
        CHECK.due("no time has gone by still", desk.pass(0), 0);
        CHECK.due("40 times", desk.run(40), 6);
        CHECK.due("the time", desk.pass(0), 40);
    }

    private static void runWithoutPlan() {
        SwapDesk desk = Desks.drawn(2, 2, "01 10");
        CHECK.due("nobody acts", desk.run(3), 0);
        CHECK.due("the time", desk.pass(0), 3);
        CHECK.tell("held", Desks.states(desk, 2), "00");
        CHECK.dueThrow("wrong times without a plan", Desks.ARGUMENT, () -> desk.run(-1));
    }

    private static void runByNumber() {
        // Along the numbers all deploy in one round; against them one a round.
        SwapDesk along = Desks.planned(4, 2, "01 12 23 30");
        CHECK.due("along the numbers", along.run(1), 4);
        CHECK.due("the key goes back", along.run(1), 2);
        CHECK.due("one more", along.run(1), 1);
        SwapDesk against = Desks.planned(4, 2, "03 32 21 10");
        CHECK.due("against the numbers", against.run(1), 2);
        CHECK.due("against, second round", against.run(1), 1);
        SwapDesk without = Desks.planned(4, 2, "01 12 23 30");
        without.conform(2, false);
        CHECK.due("up to the one that deviates", without.run(9), 2);
    }

    private static void runToTheEnd() {
        SwapDesk desk = Desks.planned(3, 2, "01 12 20");
        desk.conform(1, false);
        CHECK.due("the leader deploys", desk.run(8), 1);
        CHECK.due("it is not taken back before 8", desk.state(0), 1);
        CHECK.due("and then it is", desk.run(1), 1);
        CHECK.due("state", desk.state(0), 3);
        CHECK.due("nothing more", desk.run(40), 0);
    }

    private static void runFourteenArcs() {
        String arcs = "01 12 23 34 45 50 10 21 32 43 54 05 02 20";
        SwapDesk desk = Desks.planned(6, 9, arcs);
        CHECK.due("three leaders", desk.leaders(), 21);
        CHECK.due("each arc is deployed once and opened thrice", desk.run(40), 14 + 14 * 3);
        CHECK.tell("all paid", Desks.states(desk, 14), "22222222222222");
        for (int party = 0; party < 6; party++) {
            CHECK.due("deal", desk.outcome(party), 1);
        }
        SwapDesk failed = Desks.planned(6, 2, arcs);
        failed.conform(5, false);
        // Party 5 deploys nothing, so 0 and 4 show nothing of their own; the key of 2 comes to all but 5.
        CHECK.due("12 arcs are deployed, and the lock of 2 is opened on 10", failed.run(20), 12 + 10);
        CHECK.due("they are had back at 20", failed.run(1), 12);
        CHECK.tell("but for those from 5", Desks.states(failed, 14), "33333033330333");
    }
}
