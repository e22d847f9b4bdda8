/** Promises 14 to 17: state, open, key, outcome. */
public final class AnswersTest {
    private static final Check CHECK = new Check("AnswersTest");
    private static final int[] NO_ARCS = {-1, 6, 13, 14, 100, Integer.MAX_VALUE, Integer.MIN_VALUE};

    public static void main(String[] args) {
        noSuchArc();
        stateOf();
        openOf();
        keyOf();
        outcomeWrong();
        outcomesOfTwo();
        outcomesOfAll();
        outcomesOneToMany();
        CHECK.end();
    }

    private static void noSuchArc() {
        SwapDesk bare = new SwapDesk(4, 0);
        CHECK.dueThrow("state without arcs", Desks.INDEX, () -> bare.state(0));
        CHECK.dueThrow("open without arcs", Desks.INDEX, () -> bare.open(0));
        CHECK.dueThrow("key without arcs", Desks.INDEX, () -> bare.key(0, 0, 0));
        SwapDesk desk = Desks.planned(4, 2, "01 10 12 21 23 32");
        for (int arc : NO_ARCS) {
            CHECK.dueThrow("state(" + arc + ")", Desks.INDEX, () -> desk.state(arc));
            CHECK.dueThrow("open(" + arc + ")", Desks.INDEX, () -> desk.open(arc));
            CHECK.dueThrow("key(" + arc + ", 0, 0)", Desks.INDEX, () -> desk.key(arc, 0, 0));
            CHECK.dueThrow("key(" + arc + ", -1, -1)", Desks.INDEX, () -> desk.key(arc, -1, -1));
        }
    }

    private static void stateOf() {
        SwapDesk desk = Desks.drawn(3, 2, "01 12 20");
        CHECK.tell("held without a plan", Desks.states(desk, 3), "000");
        desk.plan();
        CHECK.tell("held at first", Desks.states(desk, 3), "000");
        desk.deploy(1);
        desk.deploy(2);
        CHECK.tell("in escrow", Desks.states(desk, 3), "011");
        Desks.show(desk, 2, "0");
        CHECK.tell("paid", Desks.states(desk, 3), "012");
        desk.pass(8);
        desk.back(1);
        CHECK.tell("back", Desks.states(desk, 3), "032");
    }

    private static SwapDesk locks() {
        SwapDesk desk = Desks.planned(4, 9, "01 10 12 21 23 32");
        for (int arc = 0; arc < 6; arc++) {
            desk.deploy(arc);
        }
        Desks.show(desk, 1, "0");
        Desks.show(desk, 3, "10");
        Desks.show(desk, 5, "210");
        Desks.show(desk, 5, "2");
        return desk;
    }

    private static void openOf() {
        SwapDesk desk = Desks.drawn(2, 2, "01 10");
        CHECK.due("without a plan", desk.open(0), 0);
        SwapDesk some = locks();
        int[] due = {0, 1, 0, 1, 0, 5};
        for (int arc = 0; arc < 6; arc++) {
            CHECK.due("open(" + arc + ")", some.open(arc), due[arc]);
        }
        CHECK.due("all open, paid", some.state(5), 2);
        some.pass(100);
        some.back(1);
        CHECK.due("open stays open", some.open(1), 1);
    }

    private static void keyOf() {
        SwapDesk desk = locks();
        CHECK.due("first", desk.key(5, 0, 0), 2);
        CHECK.due("second", desk.key(5, 0, 1), 1);
        CHECK.due("third", desk.key(5, 0, 2), 0);
        CHECK.due("no fourth", desk.key(5, 0, 3), -1);
        CHECK.due("the other lock", desk.key(5, 2, 0), 2);
        CHECK.due("the other lock has one", desk.key(5, 2, 1), -1);
        CHECK.due("lock not open", desk.key(0, 0, 0), -1);
        CHECK.due("lock not open where another is", desk.key(1, 2, 0), -1);
        for (int k : new int[] {-1, -8, 6, 7, 10, 11, 32, 64, Integer.MAX_VALUE, Integer.MIN_VALUE}) {
            CHECK.due("key(5, 0, " + k + ")", desk.key(5, 0, k), -1);
        }
        for (int leader : new int[] {-1, 1, 3, 4, 5, 6, 12, -6, Integer.MAX_VALUE, Integer.MIN_VALUE}) {
            CHECK.due("key(1, " + leader + ", 0)", desk.key(1, leader, 0), -1);
            CHECK.due("key(0, " + leader + ", 0)", desk.key(0, leader, 0), -1);
            CHECK.due("key(5, " + leader + ", 0)", desk.key(5, leader, 0), -1);
        }
    }

    private static void outcomeWrong() {
        SwapDesk desk = Desks.drawn(3, 2, "01 12 20");
        for (int party : new int[] {-1, 3, 5, 6, 32, Integer.MAX_VALUE, Integer.MIN_VALUE}) {
            CHECK.dueThrow("outcome(" + party + ")", Desks.INDEX, () -> desk.outcome(party));
        }
        CHECK.due("no deal without a plan", desk.outcome(2), 0);
        CHECK.due("no deal without an arc", new SwapDesk(0, 0).outcome(1), 0);
    }

    private static void outcomesOfTwo() {
        SwapDesk desk = Desks.planned(2, 2, "01 10");
        CHECK.due("no deal 0", desk.outcome(0), 0);
        desk.deploy(0);
        desk.deploy(1);
        CHECK.due("escrow is no deal", desk.outcome(1), 0);
        Desks.show(desk, 1, "0");
        CHECK.due("discount", desk.outcome(0), 2);
        CHECK.due("underwater", desk.outcome(1), 4);
        Desks.show(desk, 0, "10");
        CHECK.due("deal 0", desk.outcome(0), 1);
        CHECK.due("deal 1", desk.outcome(1), 1);
    }

    /** Party 0 leads and has arcs 0, 1, 2 from it to 1, 2, 3 and arcs 3, 4, 5 to it from them. */
    private static int outcomeOfLeader(int to, int from) {
        SwapDesk desk = Desks.planned(4, 9, "01 02 03 10 20 30");
        for (int arc = 0; arc < 6; arc++) {
            desk.deploy(arc);
        }
        for (int k = 0; k < to; k++) {
            Desks.show(desk, 3 + k, "0");
        }
        for (int k = 0; k < from; k++) {
            Desks.show(desk, k, (k + 1) + "0");
        }
        desk.pass(100);
        desk.run(1);
        return desk.outcome(0);
    }

    private static void outcomesOfAll() {
        CHECK.due("none", outcomeOfLeader(0, 0), 0);
        CHECK.due("some to it, none from it", outcomeOfLeader(1, 0), 3);
        CHECK.due("more to it, none from it", outcomeOfLeader(2, 0), 3);
        CHECK.due("all to it, none from it", outcomeOfLeader(3, 0), 2);
        CHECK.due("all to it, some from it", outcomeOfLeader(3, 2), 2);
        CHECK.due("all", outcomeOfLeader(3, 3), 1);
        CHECK.due("some to it, some from it", outcomeOfLeader(2, 1), 4);
        CHECK.due("some to it, all from it", outcomeOfLeader(1, 3), 4);
        CHECK.due("one and one", outcomeOfLeader(1, 1), 4);
    }

    private static void outcomes(SwapDesk desk, String due) {
        StringBuilder got = new StringBuilder();
        for (int party = 0; party < due.length(); party++) {
            got.append(desk.outcome(party));
        }
        CHECK.tell("outcomes", got.toString(), due);
    }

    /** One arc to party 0 and three from it, three arcs to party 3 and one from it. */
    private static void outcomesOneToMany() {
        SwapDesk desk = Desks.planned(4, 9, "01 02 03 13 23 30");
        CHECK.due("leader", desk.leaders(), 1);
        for (int arc = 0; arc < 6; arc++) {
            desk.deploy(arc);
        }
        outcomes(desk, "0000");
        Desks.show(desk, 5, "0");
        outcomes(desk, "2004");
        Desks.show(desk, 3, "30");
        outcomes(desk, "2404");
        Desks.show(desk, 2, "30");
        outcomes(desk, "2404");
        Desks.show(desk, 4, "30");
        outcomes(desk, "2441");
        Desks.show(desk, 0, "130");
        outcomes(desk, "2141");
        Desks.show(desk, 1, "230");
        outcomes(desk, "1111");
    }
}
