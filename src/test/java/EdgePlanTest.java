import java.util.ArrayList;
import java.util.List;

/** Promises 1 to 4 at their edges: a test for each sentence that names one. */
public final class EdgePlanTest {
    private static final Check CHECK = new Check("EdgePlanTest");
    /** Numbers whose lowest three bits are 0, negative ones among them. */
    private static final int[] HIGH_BITS =
        {0, 8, 16, 256, 65536, 1 << 30, Integer.MAX_VALUE - 7, -8, -16, -65536, Integer.MIN_VALUE};

    public static void main(String[] args) {
        partiesByTheLowestBits();
        partiesAtMostSix();
        delayByTheLowestBits();
        noArcs();
        noPlan();
        atFirst();
        arcNumbers();
        arcNoParty();
        arcTheSame();
        arcThere();
        arcAfterPlan();
        arcAfterFourteen();
        planThereIsOne();
        planNoArcs();
        planNoPath();
        planPartyWithoutArc();
        planFourteen();
        planBegins();
        spanLeastAndGreatest();
        leadersWithoutPlan();
        leadersFewest();
        leadersLeastSum();
        allSmallGraphs();
        CHECK.end();
    }

    private static void partyCount(int parties, int d, int due) {
        String what = "SwapDesk(" + parties + ", " + d + ")";
        SwapDesk desk = new SwapDesk(parties, d);
        CHECK.due(what + ".step(n - 1)", desk.step(due - 1), 1);
        CHECK.due(what + ".step(n)", desk.step(due), -1);
        CHECK.due(what + ".outcome(n - 1)", desk.outcome(due - 1), 0);
        CHECK.dueThrow(what + ".outcome(n)", Desks.INDEX, () -> desk.outcome(due));
        CHECK.due(what + ".conform(n - 1, false)", desk.conform(due - 1, false), true);
        CHECK.due(what + ".conform(n, false)", desk.conform(due, false), false);
        CHECK.due(what + ".arc(n - 1, 0)", desk.arc(due - 1, 0), 0);
        CHECK.dueThrow(what + ".arc(n, 0)", Desks.ARGUMENT, () -> desk.arc(due, 0));
        CHECK.dueThrow(what + ".act(n - 1)", Desks.STATE, () -> desk.act(due - 1));
        CHECK.dueThrow(what + ".act(n)", Desks.ARGUMENT, () -> desk.act(due));
    }

    private static void partiesByTheLowestBits() {
        CHECK.says("1: n is 2 + the lowest three bits of parties");
        for (int high : HIGH_BITS) {
            for (int low = 0; low <= 4; low++) {
                partyCount(high | low, 0, 2 + low);
                partyCount(high | low, -1 - low, 2 + low);
            }
        }
    }

    private static void partiesAtMostSix() {
        CHECK.says("1: n is .. at most 6");
        for (int high : HIGH_BITS) {
            for (int low = 5; low <= 7; low++) {
                partyCount(high | low, 0, 6);
            }
        }
        partyCount(Integer.MAX_VALUE, Integer.MAX_VALUE, 6);
        partyCount(-1, Integer.MIN_VALUE, 6);
    }

    private static void delay(int parties, int d, int due) {
        String what = "SwapDesk(" + parties + ", " + d + ")";
        SwapDesk desk = new SwapDesk(parties, d);
        desk.arc(0, 1);
        desk.arc(1, 0);
        desk.plan();
        desk.deploy(0);
        desk.pass(2 * due - 1);
        CHECK.dueThrow(what + ": back before 2 * D", Desks.UNSUPPORTED, () -> desk.back(0));
        desk.pass(1);
        desk.back(0);
        CHECK.due(what + ": back at 2 * D", desk.state(0), 3);
    }

    private static void delayByTheLowestBits() {
        CHECK.says("1: D is 2 + the lowest three bits of d");
        for (int high : HIGH_BITS) {
            for (int low = 0; low <= 7; low++) {
                delay(0, high | low, 2 + low);
                delay(high, high | low, 2 + low);
            }
        }
    }

    private static void noArcs() {
        CHECK.says("1: No arcs");
        for (int n = 2; n <= 6; n++) {
            SwapDesk desk = new SwapDesk(n - 2, 7);
            CHECK.dueThrow("state(0)", Desks.INDEX, () -> desk.state(0));
            CHECK.dueThrow("open(0)", Desks.INDEX, () -> desk.open(0));
            CHECK.dueThrow("key(0, 0, 0)", Desks.INDEX, () -> desk.key(0, 0, 0));
            CHECK.dueThrow("deploy(0)", Desks.INDEX, () -> desk.deploy(0));
            CHECK.dueThrow("back(0)", Desks.INDEX, () -> desk.back(0));
            CHECK.dueThrow("show(0)", Desks.INDEX, () -> desk.show(0));
            CHECK.due("the first arc", desk.arc(n - 1, 0), 0);
        }
    }

    private static void noPlan() {
        CHECK.says("1: no plan");
        for (int n = 2; n <= 6; n++) {
            SwapDesk desk = new SwapDesk(n - 2, 7);
            CHECK.due("leaders()", desk.leaders(), 0);
            CHECK.dueThrow("act(0)", Desks.STATE, () -> desk.act(0));
            CHECK.due("run(40)", desk.run(40), 0);
        }
    }

    private static void atFirst() {
        CHECK.says("Terms: TIME is a number, at first 0; CONFORMS (at first all do); HELD .. at first");
        for (int n = 2; n <= 6; n++) {
            SwapDesk desk = Desks.drawn(n, 2, Desks.ring(n));
            CHECK.due("time", desk.pass(0), 0);
            for (int party = 0; party < n; party++) {
                CHECK.due("conforms", desk.conform(party, true), false);
                CHECK.due("held", desk.state(party), 0);
                CHECK.due("no deal", desk.outcome(party), 0);
            }
            CHECK.due("an empty row at hand", desk.step(0), 1);
        }
    }

    private static void arcNumbers() {
        CHECK.says("2: A new arc: its number; Terms: ARCS 0, 1, .. (at most 14)");
        SwapDesk desk = new SwapDesk(4, 0);
        for (int number = 0; number < 14; number++) {
            int payer = number / 5;
            int payee = number % 5 < payer ? number % 5 : number % 5 + 1;
            int next = number;
            CHECK.dueThrow("not there before", Desks.INDEX, () -> desk.state(next));
            CHECK.due("arc(" + payer + ", " + payee + ")", desk.arc(payer, payee), number);
            CHECK.due("there now", desk.state(number), 0);
        }
    }

    /** How many arcs there are. */
    private static int count(SwapDesk desk) {
        for (int arc = 0; arc < 14; arc++) {
            try {
                desk.state(arc);
            } catch (IndexOutOfBoundsException none) {
                return arc;
            }
        }
        return 14;
    }

    private static void arcNoParty() {
        CHECK.says("2: IllegalArgumentException if one is no party");
        for (int n = 2; n <= 6; n++) {
            for (int none : Desks.outside(n)) {
                SwapDesk desk = new SwapDesk(n - 2, 0);
                for (int party = 0; party < n; party++) {
                    int other = party;
                    CHECK.dueThrow("arc(" + none + ", " + party + ")", Desks.ARGUMENT, () -> desk.arc(none, other));
                    CHECK.dueThrow("arc(" + party + ", " + none + ")", Desks.ARGUMENT, () -> desk.arc(other, none));
                }
                CHECK.dueThrow("arc(" + none + ", -1)", Desks.ARGUMENT, () -> desk.arc(none, -1));
                CHECK.due("no arc has come of it", count(desk), 0);
                CHECK.due("the next arc", desk.arc(0, n - 1), 0);
            }
        }
    }

    private static void arcTheSame() {
        CHECK.says("2: IllegalArgumentException if .. both are the same");
        for (int n = 2; n <= 6; n++) {
            SwapDesk desk = new SwapDesk(n - 2, 0);
            for (int party = 0; party < n; party++) {
                int same = party;
                CHECK.dueThrow("arc(" + same + ", " + same + ")", Desks.ARGUMENT, () -> desk.arc(same, same));
            }
            CHECK.due("no arc has come of it", count(desk), 0);
        }
        for (int none : new int[] {Integer.MIN_VALUE, -1, 2, Integer.MAX_VALUE}) {
            CHECK.dueThrow("arc(" + none + ", the same)", Desks.ARGUMENT, () -> new SwapDesk(0, 0).arc(none, none));
        }
    }

    private static void arcThere() {
        CHECK.says("2: IllegalArgumentException if .. there is that arc");
        for (int n = 2; n <= 6; n++) {
            SwapDesk desk = new SwapDesk(n - 2, 0);
            for (int party = 0; party < n - 1; party++) {
                int payer = party;
                int payee = party + 1;
                CHECK.due("an arc", desk.arc(payer, payee), 2 * party);
                CHECK.dueThrow("the same arc", Desks.ARGUMENT, () -> desk.arc(payer, payee));
                CHECK.due("the arc the other way", desk.arc(payee, payer), 2 * party + 1);
                CHECK.dueThrow("the first arc of all", Desks.ARGUMENT, () -> desk.arc(0, 1));
                CHECK.dueThrow("the last one", Desks.ARGUMENT, () -> desk.arc(payee, payer));
            }
            CHECK.due("so many arcs", count(desk), 2 * (n - 1));
        }
    }

    private static void arcAfterPlan() {
        CHECK.says("2: IllegalStateException if there is a plan");
        for (int n = 3; n <= 6; n++) {
            SwapDesk desk = Desks.planned(n, 2, Desks.ring(n));
            for (int party = 0; party < n; party++) {
                int payer = party;
                int payee = (party + n - 1) % n;
                CHECK.dueThrow("a new arc", Desks.STATE, () -> desk.arc(payer, payee));
            }
            CHECK.due("so many arcs as before", count(desk), n);
            desk.run(40);
            CHECK.dueThrow("when all is over", Desks.STATE, () -> desk.arc(1, 0));
        }
    }

    private static void arcAfterFourteen() {
        CHECK.says("2: IllegalStateException if .. there are 14 arcs");
        SwapDesk desk = new SwapDesk(4, 0);
        int made = 0;
        for (int payer = 0; payer < 6; payer++) {
            for (int payee = 0; payee < 6; payee++) {
                int from = payer;
                int to = payee;
                if (from != to && made < 14) {
                    CHECK.due("arc " + made, desk.arc(from, to), made);
                    made++;
                } else if (from != to) {
                    CHECK.dueThrow("one more, " + from + " to " + to, Desks.STATE, () -> desk.arc(from, to));
                }
            }
        }
        CHECK.due("so many arcs", count(desk), 14);
        CHECK.due("arc 13 is the last", desk.state(13), 0);
        CHECK.dueThrow("there is no arc 14", Desks.INDEX, () -> desk.state(14));
    }

    private static void planThereIsOne() {
        CHECK.says("3: UnsupportedOperationException if there is one");
        SwapDesk desk = Desks.planned(3, 3, Desks.ring(3));
        CHECK.dueThrow("at once", Desks.UNSUPPORTED, desk::plan);
        desk.pass(5);
        CHECK.dueThrow("later", Desks.UNSUPPORTED, desk::plan);
        CHECK.due("the leaders stay", desk.leaders(), 1);
        desk.deploy(0);
        desk.pass(6);
        CHECK.dueThrow("the begin and the span stay: too early", Desks.UNSUPPORTED, () -> desk.back(0));
        desk.pass(1);
        desk.back(0);
        CHECK.due("the begin and the span stay: back", desk.state(0), 3);
        CHECK.dueThrow("when all is over", Desks.UNSUPPORTED, desk::plan);
    }

    private static void planNoArcs() {
        CHECK.says("3: IllegalStateException if it would not be strong (no arcs)");
        for (int n = 2; n <= 6; n++) {
            SwapDesk desk = new SwapDesk(n - 2, 0);
            CHECK.dueThrow("no arcs", Desks.STATE, desk::plan);
            CHECK.due("no leaders", desk.leaders(), 0);
            CHECK.due("arcs can still be made", desk.arc(0, 1), 0);
            CHECK.dueThrow("one arc", Desks.STATE, desk::plan);
        }
    }

    private static void planNoPath() {
        CHECK.says("Terms: STRONG: .. there is a path from each to each other one");
        for (int n = 2; n <= 6; n++) {
            for (int gap = 0; gap < n; gap++) {
                SwapDesk desk = new SwapDesk(n - 2, 0);
                for (int party = 0; party < n; party++) {
                    if (party != gap) {
                        desk.arc(party, (party + 1) % n);
                    }
                }
                CHECK.dueThrow("a ring with a gap behind " + gap, Desks.STATE, desk::plan);
                CHECK.due("the gap is closed", desk.arc(gap, (gap + 1) % n), n - 1);
                CHECK.due("its span", desk.plan(), n - 1);
            }
        }
        SwapDesk oneWay = Desks.drawn(6, 2, "01 12 20 34 45 53 03 14 25 05 13 24 04 15");
        CHECK.dueThrow("two rings, 8 arcs between them, all one way", Desks.STATE, oneWay::plan);
        SwapDesk apart = Desks.drawn(4, 2, "01 10 23 32");
        CHECK.dueThrow("two rings apart", Desks.STATE, apart::plan);
    }

    private static void planPartyWithoutArc() {
        CHECK.says("Terms: STRONG: each party has an arc");
        for (int n = 3; n <= 6; n++) {
            SwapDesk desk = Desks.drawn(n, 2, Desks.ring(n - 1));
            CHECK.dueThrow("the last party has none", Desks.STATE, desk::plan);
            desk.arc(n - 1, 0);
            CHECK.dueThrow("it has one from it", Desks.STATE, desk::plan);
            desk.arc(0, n - 1);
            CHECK.due("it has one to it too", desk.plan(), n - 1);
        }
        SwapDesk first = Desks.drawn(3, 2, "12 21");
        CHECK.dueThrow("the first party has none", Desks.STATE, first::plan);
    }

    private static void planFourteen() {
        CHECK.says("Terms: a PLAN is made of all arcs (14 of them, strong or not)");
        SwapDesk full = Desks.drawn(6, 2, Desks.FOURTEEN);
        CHECK.due("the span", full.plan(), 5);
        CHECK.due("the leaders", full.leaders(), 21);
        Desks.deployAll(full, 14);
        CHECK.tell("each has a contract", Desks.states(full, 14), "11111111111111");
        SwapDesk last = Desks.drawn(6, 2, "01 02 03 04 10 12 13 14 20 21 23 32 45 50");
        CHECK.due("strong by the last arcs alone", last.plan(), 5);
        SwapDesk islands = Desks.drawn(6, 2, "01 02 03 10 12 13 20 21 23 30 31 32 45 54");
        CHECK.dueThrow("14 arcs, not strong", Desks.STATE, islands::plan);
        CHECK.dueThrow("and no arc can mend it", Desks.STATE, () -> islands.arc(0, 4));
        CHECK.dueThrow("so it stays", Desks.STATE, islands::plan);
    }

    private static void planBegins() {
        CHECK.says("Terms: The plan BEGINS at the time at which it is made");
        for (int begin : new int[] {0, 1, 99, 100}) {
            SwapDesk desk = Desks.drawn(2, 9, "01");
            CHECK.dueThrow("refused at 0", Desks.STATE, desk::plan);
            desk.pass(begin);
            desk.arc(1, 0);
            desk.plan();
            desk.deploy(1);
            desk.pass(17);
            CHECK.dueThrow("too early, begun at " + begin, Desks.UNSUPPORTED, () -> desk.back(1));
            desk.pass(1);
            desk.back(1);
            CHECK.due("back, begun at " + begin, desk.state(1), 3);
        }
    }

    private static void spanLeastAndGreatest() {
        CHECK.says("Terms: The SPAN is the greatest length of any path (0 for a single party)");
        for (int n = 2; n <= 6; n++) {
            CHECK.due("a ring of " + n, Desks.drawn(n, 2, Desks.ring(n)).plan(), n - 1);
        }
        for (int hub = 0; hub < 6; hub++) {
            SwapDesk star = new SwapDesk(4, 0);
            for (int party = 0; party < 6; party++) {
                if (party != hub) {
                    star.arc(party, hub);
                    star.arc(hub, party);
                }
            }
            CHECK.due("a star round " + hub, star.plan(), 2);
            CHECK.due("its hub leads", star.leaders(), 1 << hub);
        }
    }

    private static void leadersWithoutPlan() {
        CHECK.says("4: 0 without a plan");
        SwapDesk desk = new SwapDesk(1, 0);
        CHECK.due("no arcs", desk.leaders(), 0);
        desk.arc(0, 1);
        desk.arc(1, 2);
        CHECK.due("arcs", desk.leaders(), 0);
        CHECK.dueThrow("a plan that is refused", Desks.STATE, desk::plan);
        CHECK.due("a refused plan", desk.leaders(), 0);
        desk.arc(2, 0);
        desk.run(40);
        CHECK.due("strong, but no plan", desk.leaders(), 0);
        desk.plan();
        CHECK.due("a plan", desk.leaders(), 1);
        desk.run(40);
        CHECK.due("it stays when all is over", desk.leaders(), 1);
    }

    private static void leaders(int n, String arcs, int due) {
        CHECK.due("leaders of " + arcs, Desks.planned(n, 2, arcs).leaders(), due);
    }

    private static void leadersFewest() {
        CHECK.says("Terms: LEADERS .. of these sets one with the fewest parties");
        leaders(6, "50 05 51 15 52 25 53 35 54 45", 32);
        leaders(5, "01 10 02 20 03 30 04 40", 1);
        // {3, 4} goes before {0, 1, 2}, whose sum is less.
        leaders(5, "03 30 13 31 23 32 04 40 14 41 24 42", 24);
        leaders(6, "05 50 15 51 25 52 04 40 14 41 24 42 35 53", 48);
        // Each two go both ways, so all but one lead.
        leaders(2, "01 10", 1);
        leaders(3, "01 02 10 12 20 21", 3);
        leaders(4, "01 02 03 10 12 13 20 21 23 30 31 32", 7);
    }

    private static void leadersLeastSum() {
        CHECK.says("Terms: LEADERS .. of these that whose sum of 2 to the power of each leader is the least");
        for (int n = 2; n <= 6; n++) {
            leaders(n, Desks.ring(n), 1);
        }
        // {0, 2}, {1, 2} and {1, 3}: 5, 6 and 10.
        leaders(4, "01 10 12 21 23 32", 5);
        // {0, 3} and {1, 2}: 9 and 6, so the set with the least party is not the one.
        leaders(4, "01 10 02 20 31 13 32 23", 6);
        // One of each of two rings: 9 and 3.
        leaders(6, "01 12 20 34 45 53 23 50", 9);
        leaders(6, "12 23 31 45 50 04 34 01", 3);
        leaders(6, "10 01 32 23 54 45 12 34 50", 21);
    }

    /** Every graph of 2, 3 and 4 parties, against the second model, which lists all paths. */
    private static void allSmallGraphs() {
        CHECK.says("3, 4: every graph of two, three and four parties");
        for (int n = 2; n <= 4; n++) {
            List<int[]> pairs = pairs(n);
            for (int set = 0; set < 1 << pairs.size(); set++) {
                SwapDesk desk = new SwapDesk(n - 2, 0);
                PlainDesk plain = new PlainDesk(n - 2, 0);
                for (int k = 0; k < pairs.size(); k++) {
                    if ((set >> k & 1) == 1) {
                        desk.arc(pairs.get(k)[0], pairs.get(k)[1]);
                        plain.arc(pairs.get(k)[0], pairs.get(k)[1]);
                    }
                }
                CHECK.due("plan of set " + set + " of " + n, planOf(desk), planOf(plain));
                CHECK.due("leaders of set " + set + " of " + n, desk.leaders(), plain.leaders());
            }
        }
    }

    private static List<int[]> pairs(int n) {
        List<int[]> pairs = new ArrayList<>();
        for (int payer = 0; payer < n; payer++) {
            for (int payee = 0; payee < n; payee++) {
                if (payer != payee) {
                    pairs.add(new int[] {payer, payee});
                }
            }
        }
        return pairs;
    }

    /** The span, or -1 if it is not strong. */
    private static int planOf(SwapDesk desk) {
        try {
            return desk.plan();
        } catch (IllegalStateException notStrong) {
            return -1;
        }
    }

    private static int planOf(PlainDesk plain) {
        try {
            return plain.plan();
        } catch (IllegalStateException notStrong) {
            return -1;
        }
    }
}
