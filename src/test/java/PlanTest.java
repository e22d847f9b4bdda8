/** Promises 1 to 4: a new object, arc, plan, leaders. */
public final class PlanTest {
    private static final Check CHECK = new Check("PlanTest");
    private static final String FOURTEEN = "01 02 03 04 05 10 12 13 14 15 20 21 23 24";

    public static void main(String[] args) {
        newObjectParties();
        newObjectDelay();
        newObjectIsBare();
        arcNumbers();
        arcWrong();
        arcFourteen();
        arcAfterPlan();
        planSpans();
        planNotStrong();
        planOnce();
        planBegins();
        leaderSets();
        CHECK.end();
    }

    private static void newObjectParties() {
        int[] given = {0, 1, 2, 3, 4, 5, 6, 7, 8, 9, 12, 13, -1, -8, -6, Integer.MAX_VALUE, Integer.MIN_VALUE};
        int[] due = {2, 3, 4, 5, 6, 6, 6, 6, 2, 3, 6, 6, 6, 2, 4, 6, 2};
        for (int i = 0; i < given.length; i++) {
            SwapDesk desk = new SwapDesk(given[i], 0);
            int n = 0;
            while (n < 20 && desk.step(n) > 0) {
                n++;
                desk.clear();
            }
            CHECK.due("parties of SwapDesk(" + given[i] + ", 0)", n, due[i]);
            CHECK.due("outcome of the last", desk.outcome(n - 1), 0);
            int none = n;
            CHECK.dueThrow("outcome of one more", Desks.INDEX, () -> desk.outcome(none));
        }
    }

    private static void newObjectDelay() {
        int[] given = {0, 1, 2, 3, 4, 5, 6, 7, 8, 15, -1, -8, Integer.MAX_VALUE, Integer.MIN_VALUE};
        int[] due = {2, 3, 4, 5, 6, 7, 8, 9, 2, 9, 9, 2, 9, 2};
        for (int i = 0; i < given.length; i++) {
            SwapDesk desk = new SwapDesk(0, given[i]);
            desk.arc(0, 1);
            desk.arc(1, 0);
            desk.plan();
            desk.deploy(0);
            desk.pass(2 * due[i] - 1);
            CHECK.dueThrow("back before 2 * D of SwapDesk(0, " + given[i] + ")", Desks.UNSUPPORTED, () -> desk.back(0));
            desk.pass(1);
            desk.back(0);
            CHECK.due("state at 2 * D", desk.state(0), 3);
        }
    }

    private static void newObjectIsBare() {
        SwapDesk desk = new SwapDesk(4, 0);
        CHECK.dueThrow("state of no arc", Desks.INDEX, () -> desk.state(0));
        CHECK.due("leaders", desk.leaders(), 0);
        CHECK.due("time", desk.pass(0), 0);
        CHECK.dueThrow("act without plan", Desks.STATE, () -> desk.act(0));
        for (int party = 0; party < 6; party++) {
            CHECK.due("all conform at first", desk.conform(party, true), false);
        }
        CHECK.due("the path at hand is empty", desk.step(0), 1);
    }

    private static void arcNumbers() {
        SwapDesk desk = new SwapDesk(1, 0);
        CHECK.due("first arc", desk.arc(2, 0), 0);
        CHECK.due("the other way is another arc", desk.arc(0, 2), 1);
        CHECK.due("third arc", desk.arc(0, 1), 2);
        CHECK.due("held at first", desk.state(2), 0);
    }

    private static void arcWrong() {
        SwapDesk desk = new SwapDesk(1, 0);
        desk.arc(0, 1);
        int[][] wrong = {{-1, 0}, {0, -1}, {3, 0}, {0, 3}, {5, 0}, {1, 1}, {3, 3}, {0, 1},
            {Integer.MIN_VALUE, 0}, {0, Integer.MAX_VALUE}, {32, 0}, {0, 33}};
        for (int[] pair : wrong) {
            CHECK.dueThrow("arc(" + pair[0] + ", " + pair[1] + ")", Desks.ARGUMENT, () -> desk.arc(pair[0], pair[1]));
        }
        CHECK.dueThrow("no arc came of it", Desks.INDEX, () -> desk.state(1));
        CHECK.due("next arc", desk.arc(1, 0), 1);
    }

    private static void arcFourteen() {
        SwapDesk desk = Desks.drawn(6, 2, FOURTEEN);
        CHECK.due("arc 13 is there", desk.state(13), 0);
        CHECK.dueThrow("a fifteenth arc", Desks.STATE, () -> desk.arc(5, 0));
        CHECK.dueThrow("a fifteenth that is there", Desks.ARGUMENT, () -> desk.arc(0, 1));
        CHECK.dueThrow("a fifteenth to no party", Desks.ARGUMENT, () -> desk.arc(0, 6));
        CHECK.dueThrow("no arc 14", Desks.INDEX, () -> desk.state(14));
        CHECK.dueThrow("parties 3 to 5 have no arc from them", Desks.STATE, desk::plan);
        SwapDesk full = Desks.drawn(6, 2, "01 12 23 34 45 50 10 21 32 43 54 05 02 20");
        CHECK.due("14 arcs make a plan", full.plan(), 5);
    }

    private static void arcAfterPlan() {
        SwapDesk desk = Desks.planned(3, 2, "01 12 20");
        CHECK.dueThrow("a new arc", Desks.STATE, () -> desk.arc(1, 0));
        CHECK.dueThrow("an arc that is there", Desks.ARGUMENT, () -> desk.arc(0, 1));
        CHECK.dueThrow("an arc to itself", Desks.ARGUMENT, () -> desk.arc(2, 2));
        CHECK.dueThrow("an arc to no party", Desks.ARGUMENT, () -> desk.arc(0, 3));
    }

    private static void span(int n, String arcs, int due) {
        CHECK.due("span of " + arcs, Desks.drawn(n, 2, arcs).plan(), due);
    }

    private static void planSpans() {
        span(2, "01 10", 1);
        span(3, "01 12 20", 2);
        span(4, "01 10 12 23 31 21", 3);
        span(6, "01 12 23 34 45 50", 5);
        span(6, "30 03 31 13 32 23 34 43 35 53", 2);
        span(5, "01 12 20 03 34 40", 4);
        span(5, "01 10 02 20 03 34 40", 3);
        span(6, "01 10 12 21 03 30 34 43 05 50", 4);
        // The only longest path begins with the first party, and with the last one.
        span(5, "01 10 12 23 31 34 43", 4);
        span(5, "01 02 10 23 24 30 42", 4);
    }

    private static void planNotStrong() {
        SwapDesk desk = new SwapDesk(1, 0);
        CHECK.dueThrow("no arcs", Desks.STATE, desk::plan);
        desk.arc(0, 1);
        desk.arc(1, 0);
        CHECK.dueThrow("party 2 has no arc", Desks.STATE, desk::plan);
        desk.arc(1, 2);
        CHECK.dueThrow("nothing goes from 2", Desks.STATE, desk::plan);
        CHECK.due("leaders", desk.leaders(), 0);
        CHECK.dueThrow("there is no plan", Desks.STATE, () -> desk.deploy(0));
        desk.arc(2, 0);
        CHECK.due("strong now", desk.plan(), 2);
        SwapDesk source = Desks.drawn(3, 2, "01 12 21");
        CHECK.dueThrow("nothing goes to 0", Desks.STATE, source::plan);
        SwapDesk sink = Desks.drawn(3, 2, "10 12 21");
        CHECK.dueThrow("nothing goes from 0", Desks.STATE, sink::plan);
        SwapDesk halves = Desks.drawn(4, 2, "01 10 23 32 12");
        CHECK.dueThrow("two halves, one way", Desks.STATE, halves::plan);
        halves.arc(3, 0);
        CHECK.due("both ways", halves.plan(), 3);
    }

    private static void planOnce() {
        SwapDesk desk = Desks.planned(2, 2, "01 10");
        desk.pass(3);
        CHECK.dueThrow("a second plan", Desks.UNSUPPORTED, desk::plan);
        CHECK.due("leaders stay", desk.leaders(), 1);
        desk.deploy(0);
        desk.pass(1);
        desk.back(0);
        CHECK.due("the begin stays", desk.state(0), 3);
    }

    private static void planBegins() {
        SwapDesk desk = Desks.drawn(2, 9, "01 10");
        desk.pass(50);
        desk.run(5);
        desk.plan();
        desk.deploy(0);
        desk.pass(17);
        CHECK.dueThrow("back at 55 + 17", Desks.UNSUPPORTED, () -> desk.back(0));
        desk.pass(1);
        desk.back(0);
        CHECK.due("back at 55 + 18", desk.state(0), 3);
    }

    private static void leaders(int n, String arcs, int due) {
        SwapDesk desk = Desks.drawn(n, 2, arcs);
        CHECK.due("leaders without a plan of " + arcs, desk.leaders(), 0);
        desk.plan();
        CHECK.due("leaders of " + arcs, desk.leaders(), due);
        CHECK.due("leaders of " + arcs + " again", desk.leaders(), due);
    }

    private static void leaderSets() {
        leaders(2, "01 10", 1);
        leaders(3, "21 10 02", 1);
        leaders(4, "01 10 12 23 31 21", 2);
        // One leader of weight 32 goes before five with the sum 31.
        leaders(6, "50 05 51 15 52 25 53 35 54 45", 32);
        // {0, 2}, {1, 2} and {1, 3} are all smallest.
        leaders(4, "01 10 12 21 23 32", 5);
        leaders(4, "01 02 03 10 12 13 20 21 23 30 31 32", 7);
        leaders(6, "01 10 12 21 23 32 34 43 45 54", 21);
        leaders(6, "01 12 20 34 45 53 23 50", 9);
        leaders(6, "01 12 20 13 32 24 43 35 54", 9);
    }
}
