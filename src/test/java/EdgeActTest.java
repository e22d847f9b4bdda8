/** Promises 5 to 7 and the four points of acting at their edges: a test for each sentence that names one. */
public final class EdgeActTest {
    private static final Check CHECK = new Check("EdgeActTest");

    public static void main(String[] args) {
        conformNoneSuch();
        conformSoAlready();
        conformFromNowOn();
        actNoSuchParty();
        actNoPlan();
        actDeviates();
        runTooFewOrTooMany();
        runLeastAndMost();
        runByNumberThenTime();
        runWithoutPlan();
        runNobodyConforms();
        deployAsLeader();
        deployWhenAllAreThere();
        deployOnlyHeld();
        deployUntilTheEnd();
        showItselfWhenAllAreThere();
        showItselfWhereNotOpen();
        showItselfInTime();
        passOnForEachLeader();
        passOnNotItself();
        passOnShortest();
        passOnFirstOfEqual();
        passOnOnlyEscrow();
        passOnWhereNotOpen();
        passOnInTime();
        passOnShortestAlone();
        takeBackFromThenOn();
        takeBackOnlyEscrow();
        deedsAreCounted();
        CHECK.end();
    }

    private static SwapDesk ringBegun(int n, int d, int begin) {
        SwapDesk desk = Desks.drawn(n, d, Desks.ring(n));
        desk.pass(begin);
        desk.plan();
        return desk;
    }

    private static void conformNoneSuch() {
        CHECK.says("5: false, refused, if there is none such");
        for (int n = 2; n <= 6; n++) {
            for (int none : Desks.outside(n)) {
                SwapDesk desk = Desks.planned(n, 2, Desks.ring(n));
                CHECK.due("conform(" + none + ", false)", desk.conform(none, false), false);
                CHECK.due("conform(" + none + ", true)", desk.conform(none, true), false);
                CHECK.due("conform(" + none + ", false) again", desk.conform(none, false), false);
                for (int party = 0; party < n; party++) {
                    CHECK.due("all conform still", desk.conform(party, true), false);
                }
            }
        }
    }

    private static void conformSoAlready() {
        CHECK.says("5: false, refused, if .. it is so already");
        for (int n = 2; n <= 6; n++) {
            SwapDesk desk = new SwapDesk(n - 2, 0);
            for (int party = 0; party < n; party++) {
                CHECK.due("conforms already", desk.conform(party, true), false);
                CHECK.due("deviates", desk.conform(party, false), true);
                CHECK.due("deviates already", desk.conform(party, false), false);
                CHECK.due("conforms", desk.conform(party, true), true);
                CHECK.due("conforms already again", desk.conform(party, true), false);
                CHECK.due("deviates again", desk.conform(party, false), true);
            }
            for (int party = 0; party < n; party++) {
                CHECK.due("each for itself", desk.conform(party, true), true);
            }
        }
    }

    private static void conformFromNowOn() {
        CHECK.says("5: A party conforms or deviates, from now on");
        SwapDesk desk = Desks.planned(2, 9, "01 10");
        CHECK.due("0 deploys", desk.act(0), 1);
        desk.conform(1, false);
        CHECK.due("1 does nothing", desk.run(1), 0);
        CHECK.due("what was done stays", desk.state(0), 1);
        desk.conform(1, true);
        CHECK.due("1 deploys", desk.run(1), 1);
    }

    private static void actNoSuchParty() {
        CHECK.says("6: IllegalArgumentException if there is no such party");
        for (int n = 2; n <= 6; n++) {
            for (int none : Desks.outside(n)) {
                SwapDesk desk = Desks.planned(n, 2, Desks.ring(n));
                CHECK.dueThrow("act(" + none + ")", Desks.ARGUMENT, () -> desk.act(none));
                CHECK.due("nothing was deployed", desk.state(0), 0);
            }
            SwapDesk last = Desks.planned(n, 2, Desks.ring(n));
            CHECK.due("the last party is one", last.act(n - 1), 0);
            CHECK.due("the first party is one", last.act(0), 1);
        }
    }

    private static void actNoPlan() {
        CHECK.says("6: IllegalStateException if there is no plan");
        for (int n = 2; n <= 6; n++) {
            SwapDesk bare = new SwapDesk(n - 2, 0);
            SwapDesk drawn = Desks.drawn(n, 2, Desks.ring(n));
            for (int party = 0; party < n; party++) {
                int one = party;
                CHECK.dueThrow("without arcs", Desks.STATE, () -> bare.act(one));
                CHECK.dueThrow("with arcs", Desks.STATE, () -> drawn.act(one));
            }
            CHECK.due("held", drawn.state(0), 0);
        }
    }

    private static void actDeviates() {
        CHECK.says("6: UnsupportedOperationException if it deviates");
        for (int n = 2; n <= 6; n++) {
            for (int party = 0; party < n; party++) {
                int one = party;
                SwapDesk desk = Desks.deployed(n, 2, Desks.ring(n));
                desk.conform(one, false);
                CHECK.dueThrow("at first", Desks.UNSUPPORTED, () -> desk.act(one));
                desk.pass(100);
                CHECK.dueThrow("when all is over", Desks.UNSUPPORTED, () -> desk.act(one));
                CHECK.due("its asset is in escrow still", desk.state(one), 1);
                CHECK.due("the others act", desk.act((one + 1) % n), 1);
            }
        }
    }

    private static void runTooFewOrTooMany() {
        CHECK.says("7: IllegalArgumentException if it is not 0 .. 40");
        for (int times : Desks.outside(41)) {
            SwapDesk desk = Desks.planned(2, 2, "01 10");
            CHECK.dueThrow("run(" + times + ")", Desks.ARGUMENT, () -> desk.run(times));
            CHECK.due("no time has gone by", desk.pass(0), 0);
            CHECK.tell("nobody has acted", Desks.states(desk, 2), "00");
            CHECK.dueThrow("without a plan", Desks.ARGUMENT, () -> new SwapDesk(0, 0).run(times));
        }
    }

    private static void runLeastAndMost() {
        CHECK.says("7: So many times (0 .. 40)");
        for (int times = 0; times <= 40; times++) {
            SwapDesk desk = Desks.planned(2, 9, "01 10");
            desk.conform(1, false);
            CHECK.due("run(" + times + ")", desk.run(times), times == 0 ? 0 : times <= 18 ? 1 : 2);
            CHECK.due("the time", desk.pass(0), times);
            CHECK.due("the asset", desk.state(0), times == 0 ? 0 : times <= 18 ? 1 : 3);
        }
    }

    private static void runByNumberThenTime() {
        CHECK.says("7: all parties that conform act, by number, then the time is one more");
        for (int n = 2; n <= 6; n++) {
            SwapDesk along = Desks.planned(n, 2, Desks.ring(n));
            CHECK.due("along the numbers all deploy, one after the other", along.run(1), n);
            // In time before span * D: the leader still acts at the last time, not at the time after it.
            SwapDesk early = Desks.deployed(n, 2, Desks.ring(n));
            early.pass((n - 1) * 2 - 1);
            early.run(1);
            CHECK.due("the leader acts before the time grows", early.state(n - 1), 2);
            SwapDesk late = Desks.deployed(n, 2, Desks.ring(n));
            late.pass((n - 1) * 2);
            late.run(1);
            CHECK.due("too late", late.state(n - 1), 1);
        }
        SwapDesk against = Desks.planned(4, 9, "03 32 21 10");
        CHECK.due("against the numbers: 0, then 3", against.run(1), 2);
        CHECK.due("then 2", against.run(1), 1);
        CHECK.due("then 1", against.run(1), 1);
        CHECK.due("then 0 shows itself, and 1 passes it on, and 2, and 3", against.run(1), 4);
    }

    private static void runWithoutPlan() {
        CHECK.says("7: (Without a plan nobody acts.)");
        for (int times : new int[] {0, 1, 40}) {
            SwapDesk desk = Desks.drawn(3, 2, Desks.ring(3));
            CHECK.due("run(" + times + ")", desk.run(times), 0);
            CHECK.due("the time grows", desk.pass(0), times);
            CHECK.tell("held", Desks.states(desk, 3), "000");
            CHECK.due("a plan can be made", desk.plan(), 2);
            CHECK.due("and all act", desk.run(1), 3);
        }
    }

    private static void runNobodyConforms() {
        CHECK.says("7: all parties that conform (none of them)");
        for (int n = 2; n <= 6; n++) {
            SwapDesk desk = Desks.planned(n, 2, Desks.ring(n));
            for (int party = 0; party < n; party++) {
                desk.conform(party, false);
            }
            CHECK.due("nobody acts", desk.run(40), 0);
            CHECK.due("the time grows", desk.pass(0), 40);
            CHECK.due("held", desk.state(0), 0);
        }
    }

    private static void deployAsLeader() {
        CHECK.says("Acting 1: if it is a leader");
        SwapDesk desk = Desks.planned(4, 2, "01 10 12 21 23 32");
        CHECK.due("no arc to 1 is in escrow", desk.act(1), 0);
        CHECK.due("nor to 3", desk.act(3), 0);
        CHECK.due("the leader 0 deploys its arc", desk.act(0), 1);
        CHECK.due("the leader 2 deploys both of its arcs", desk.act(2), 2);
        CHECK.tell("those alone", Desks.states(desk, 6), "100110");
    }

    private static void deployWhenAllAreThere() {
        CHECK.says("Acting 1: or all arcs to it are in escrow or paid");
        // 0 leads; 3 has arcs to it from 0, 1 and 2.
        String arcs = "03 13 23 30 01 02 10 20";
        SwapDesk none = Desks.planned(4, 9, arcs);
        CHECK.due("leader", none.leaders(), 1);
        CHECK.due("none of three", none.act(3), 0);
        SwapDesk some = Desks.planned(4, 9, arcs);
        some.deploy(0);
        CHECK.due("one of three", some.act(3), 0);
        some.deploy(2);
        CHECK.due("two of three", some.act(3), 0);
        some.deploy(1);
        CHECK.due("three of three", some.act(3), 1);
        SwapDesk mixed = Desks.planned(4, 9, arcs);
        mixed.deploy(0);
        mixed.deploy(2);
        mixed.deploy(6);
        Desks.show(mixed, 6, "0");
        Desks.show(mixed, 0, "30");
        CHECK.due("one paid, one in escrow, one held", mixed.act(3), 0);
        mixed.deploy(1);
        CHECK.due("one paid, two in escrow", mixed.act(3), 1);
        CHECK.due("deployed", mixed.state(3), 1);
        SwapDesk paid = Desks.planned(4, 9, arcs);
        paid.deploy(0);
        paid.deploy(1);
        paid.deploy(2);
        paid.deploy(6);
        Desks.show(paid, 6, "0");
        Desks.show(paid, 0, "30");
        Desks.show(paid, 1, "30");
        Desks.show(paid, 2, "30");
        CHECK.due("all three are paid", paid.act(3), 1);
    }

    private static void deployOnlyHeld() {
        CHECK.says("Acting 1: it deploys the contracts of all arcs from it that are held");
        SwapDesk desk = Desks.planned(4, 9, "01 02 03 10 20 30");
        desk.deploy(1);
        CHECK.due("two of three are held", desk.act(0), 2);
        CHECK.tell("all three", Desks.states(desk, 6), "111000");
        CHECK.due("none is held", desk.act(0), 0);
    }

    /** Leader and follower of the ring at so much after the begin; the follower's arc to it is in escrow. */
    private static void deployAt(int n, int d, int begin, int after, int due) {
        String what = " of " + n + ", D " + d + ", at " + begin + " + " + after;
        SwapDesk leads = ringBegun(n, d, begin);
        leads.pass(after);
        CHECK.due("the leader" + what, leads.act(0), due);
        CHECK.due("its arc" + what, leads.state(0), due);
        SwapDesk follows = ringBegun(n, d, begin);
        follows.deploy(0);
        follows.pass(after);
        CHECK.due("the follower" + what, follows.act(1), due);
        CHECK.due("its arc, follower" + what, follows.state(1), due);
    }

    private static void deployUntilTheEnd() {
        CHECK.says("Acting 1: (not if the time is the begin and 2 * span * D, or later)");
        for (int n = 2; n <= 6; n++) {
            for (int d = 2; d <= 9; d++) {
                int end = 2 * (n - 1) * d;
                for (int begin : new int[] {0, 13}) {
                    deployAt(n, d, begin, 0, 1);
                    deployAt(n, d, begin, end - 1, 1);
                    deployAt(n, d, begin, end, 0);
                    deployAt(n, d, begin, end + 1, 0);
                }
            }
        }
    }

    private static void showItselfWhenAllAreThere() {
        CHECK.says("Acting 2: if it is a leader and all arcs to it are in escrow or paid");
        SwapDesk desk = Desks.planned(4, 9, "10 20 30 01 02 03");
        CHECK.due("the leader deploys and shows nothing", desk.act(0), 3);
        desk.deploy(0);
        CHECK.due("one of three", desk.act(0), 0);
        desk.deploy(2);
        CHECK.due("two of three", desk.act(0), 0);
        CHECK.due("nothing is open", desk.open(0) + desk.open(2), 0);
        desk.deploy(1);
        CHECK.due("three of three", desk.act(0), 3);
        CHECK.tell("all paid", Desks.states(desk, 3), "222");
        SwapDesk paid = Desks.deployed(4, 9, "10 20 30 01 02 03");
        Desks.show(paid, 1, "0");
        CHECK.due("one paid, two in escrow", paid.act(0), 2);
        SwapDesk held = Desks.planned(4, 9, "10 20 30 01 02 03");
        held.deploy(0);
        held.deploy(1);
        Desks.show(held, 1, "0");
        CHECK.due("one paid, one in escrow, one held: it only deploys", held.act(0), 3);
        CHECK.due("not shown", held.open(0), 0);
        SwapDesk follows = Desks.deployed(2, 9, "01 10");
        CHECK.due("one that is no leader shows nothing of its own", follows.act(1), 0);
    }

    private static void showItselfWhereNotOpen() {
        CHECK.says("Acting 2: on each arc to it that is in escrow, where its own lock is not open");
        SwapDesk desk = Desks.deployed(4, 9, "01 10 12 21 23 32");
        Desks.show(desk, 2, "2");
        CHECK.due("2 shows itself on the other arc alone", desk.act(2), 1);
        CHECK.tell("on 3 2", Desks.key(desk, 5, 2), "2");
        CHECK.due("not again", desk.act(2), 0);
        CHECK.due("the lock of 0 is not its own", desk.open(5), 4);
    }

    private static void showItselfAt(int n, int d, int begin, int after, int due) {
        SwapDesk desk = ringBegun(n, d, begin);
        Desks.deployAll(desk, n);
        desk.pass(after);
        CHECK.due("ring of " + n + ", D " + d + ", at " + begin + " + " + after, desk.act(0), due);
        CHECK.due("the lock", desk.open(n - 1), due);
    }

    private static void showItselfInTime() {
        CHECK.says("Acting 2: it shows itself alone, if that is in time (before the begin and span * D)");
        for (int n = 2; n <= 6; n++) {
            for (int d = 2; d <= 9; d++) {
                int end = (n - 1) * d;
                for (int begin : new int[] {0, 13}) {
                    showItselfAt(n, d, begin, 0, 1);
                    showItselfAt(n, d, begin, end - 1, 1);
                    showItselfAt(n, d, begin, end, 0);
                    showItselfAt(n, d, begin, end + 1, 0);
                }
            }
        }
    }

    private static void passOnForEachLeader() {
        CHECK.says("Acting 3: for each leader, by number");
        // 0, 2 and 4 lead, and 5 pays all of them, so it hears of three keys at once.
        SwapDesk desk = Desks.deployed(6, 9, "01 10 23 32 12 34 43 50 52 54 45 20");
        CHECK.due("leaders", desk.leaders(), 21);
        Desks.show(desk, 8, "2");
        Desks.show(desk, 9, "4");
        Desks.show(desk, 7, "0");
        CHECK.due("three keys on the arc to it", desk.act(5), 3);
        CHECK.tell("of 0", Desks.key(desk, 10, 0), "50");
        CHECK.tell("of 2", Desks.key(desk, 10, 2), "52");
        CHECK.tell("of 4", Desks.key(desk, 10, 4), "54");
        CHECK.due("paid", desk.state(10), 2);
        SwapDesk leads = Desks.deployed(3, 9, "01 10 12 21 02 20");
        CHECK.due("leaders", leads.leaders(), 3);
        Desks.show(leads, 0, "1");
        CHECK.due("a leader shows itself and passes the other on, on two arcs", leads.act(0), 4);
        CHECK.tell("itself", Desks.key(leads, 5, 0), "0");
        CHECK.tell("the other", Desks.key(leads, 5, 1), "01");
    }

    private static void passOnNotItself() {
        CHECK.says("Acting 3: where that leader's lock is open, by a path in which it is not itself");
        SwapDesk desk = Desks.planned(3, 9, "10 20 21 12 01 02");
        CHECK.due("leaders", desk.leaders(), 3);
        desk.deploy(1);
        desk.deploy(2);
        desk.deploy(3);
        Desks.show(desk, 1, "0");
        Desks.show(desk, 2, "10");
        Desks.show(desk, 3, "210");
        desk.deploy(4);
        CHECK.due("1 deploys 1 0 and shows itself on 2 1 and 0 1", desk.act(1), 3);
        CHECK.due("the lock of 0 on 0 1 stays", desk.open(4), 2);
        // A leader's own key comes back to it by paths that end with it.
        SwapDesk own = Desks.deployed(2, 9, "01 10");
        Desks.show(own, 1, "0");
        Desks.show(own, 0, "10");
        CHECK.due("nothing is left to do", own.act(0), 0);
        // 0 1 0 would still be in time when 0 alone is not.
        SwapDesk late = Desks.deployed(3, 2, "01 10 02 20");
        Desks.show(late, 1, "0");
        Desks.show(late, 0, "10");
        late.pass(4);
        CHECK.due("its own key does not go round", late.act(0), 0);
        CHECK.due("2 0 stays shut", late.open(3), 0);
        // Of two keys the shorter one has the party in it, so the longer one is taken.
        SwapDesk longer = Desks.deployed(6, 9, "31 32 30 13 24 45 50 03 01 10");
        CHECK.due("leaders", longer.leaders(), 3);
        Desks.show(longer, 6, "0");
        Desks.show(longer, 3, "30");
        Desks.show(longer, 0, "130");
        CHECK.due("3 hears of 1 3 0 alone", longer.act(3), 0);
        Desks.show(longer, 5, "50");
        Desks.show(longer, 4, "450");
        Desks.show(longer, 1, "2450");
        CHECK.due("3 hears of 2 4 5 0 too", longer.act(3), 1);
        CHECK.tell("by the longer path", Desks.key(longer, 7, 0), "32450");
    }

    private static SwapDesk heardTwice(String arcs) {
        return Desks.deployed(4, 2, arcs);
    }

    private static void passOnShortest() {
        CHECK.says("Acting 3: the one with the shortest path");
        String[] arcs = {"31 32 12 20 10 03", "32 31 12 20 10 03"};
        for (int i = 0; i < 2; i++) {
            SwapDesk desk = heardTwice(arcs[i]);
            Desks.show(desk, 3, "0");
            Desks.show(desk, 2, "20");
            Desks.show(desk, i, "120");
            Desks.show(desk, 1 - i, "20");
            CHECK.due("one deed", desk.act(3), 1);
            CHECK.tell("of 1 2 0 and 2 0, arcs " + arcs[i], Desks.key(desk, 5, 0), "320");
        }
    }

    private static void passOnFirstOfEqual() {
        CHECK.says("Acting 3: (of equal ones the first)");
        String[] arcs = {"31 32 10 20 03", "32 31 10 20 03", "10 32 20 31 03", "03 20 10 31 32"};
        String[] due = {"310", "320", "320", "310"};
        for (int i = 0; i < arcs.length; i++) {
            for (int first = 1; first <= 2; first++) {
                SwapDesk desk = heardTwice(arcs[i]);
                desk.act(0);
                desk.act(first);
                desk.act(3 - first);
                CHECK.due("one deed", desk.act(3), 1);
                CHECK.tell("arcs " + arcs[i], Desks.key(desk, arcs[i].indexOf("03") / 3, 0), due[i]);
            }
        }
    }

    private static void passOnOnlyEscrow() {
        CHECK.says("Acting 3: on each arc to it that is in escrow");
        SwapDesk desk = Desks.planned(4, 9, "13 23 03 30 01 02");
        CHECK.due("leader", desk.leaders(), 1);
        desk.deploy(3);
        Desks.show(desk, 3, "0");
        CHECK.due("none is in escrow", desk.act(3), 0);
        desk.deploy(1);
        CHECK.due("one is", desk.act(3), 1);
        CHECK.due("that one", desk.state(1), 2);
        CHECK.due("paid already", desk.act(3), 0);
        desk.deploy(0);
        desk.deploy(2);
        CHECK.due("two more", desk.act(3), 2);
        CHECK.tell("all to it are paid", Desks.states(desk, 3), "222");
    }

    private static void passOnWhereNotOpen() {
        CHECK.says("Acting 3: where that leader's lock is not open");
        SwapDesk desk = Desks.deployed(4, 9, "01 10 12 21 23 32");
        Desks.show(desk, 1, "0");
        Desks.show(desk, 3, "10");
        CHECK.due("1 passes 0 on, on 0 1 alone", desk.act(1), 1);
        CHECK.tell("on 0 1", Desks.key(desk, 0, 0), "10");
        Desks.show(desk, 2, "2");
        CHECK.due("the key of 2 on both arcs to 1", desk.act(1), 2);
        CHECK.due("not again", desk.act(1), 0);
    }

    private static void passOnAt(int n, int d, int length, int after, int due) {
        SwapDesk desk = ringBegun(n, d, 13);
        Desks.deployAll(desk, n);
        for (int shorter = 0; shorter < length; shorter++) {
            Desks.show(desk, n - 1 - shorter, Desks.ringPath(n, shorter));
        }
        desk.pass(after);
        desk.act(n - length);
        int arc = n - 1 - length;
        String what = "ring of " + n + ", D " + d + ", length " + length + ", at 13 + " + after;
        CHECK.due(what, desk.open(arc), due);
        CHECK.tell(what + ", the path", Desks.key(desk, arc, 0), due == 0 ? "" : Desks.ringPath(n, length));
    }

    private static void passOnInTime() {
        CHECK.says("Acting 3: it shows that path with itself before it, if that is in time");
        for (int n = 2; n <= 6; n++) {
            for (int d = 2; d <= 9; d++) {
                for (int length = 1; length < n; length++) {
                    int end = (n - 1 + length) * d;
                    passOnAt(n, d, length, 0, 1);
                    passOnAt(n, d, length, end - 1, 1);
                    passOnAt(n, d, length, end, 0);
                    passOnAt(n, d, length, end + 1, 0);
                }
            }
        }
    }

    private static void passOnShortestAlone() {
        CHECK.says("Acting 3: it shows that path (the shortest, and no other one that would be in time)");
        for (int late = 0; late < 2; late++) {
            SwapDesk desk = heardTwice("31 32 12 20 10 03");
            Desks.show(desk, 3, "0");
            Desks.show(desk, 2, "20");
            Desks.show(desk, 0, "120");
            Desks.show(desk, 1, "20");
            desk.pass(9 + late);
            CHECK.due("3 2 0 is in time before 10", desk.act(3), 1 - late);
            CHECK.tell("the path", Desks.key(desk, 5, 0), late == 0 ? "320" : "");
        }
    }

    private static void takeBackAt(int n, int d, int begin, int after, int due) {
        SwapDesk desk = ringBegun(n, d, begin);
        Desks.deployAll(desk, n);
        desk.pass(after);
        for (int party = 0; party < n; party++) {
            CHECK.due("party " + party + " of " + n + " at " + begin + " + " + after, desk.act(party), due);
            CHECK.due("its asset", desk.state(party), due == 1 ? 3 : 1);
        }
    }

    private static void takeBackFromThenOn() {
        CHECK.says("Acting 4: if they can be had back (from the begin and 2 * span * D on)");
        for (int n = 2; n <= 6; n++) {
            for (int d = 2; d <= 9; d++) {
                int end = 2 * (n - 1) * d;
                for (int begin : new int[] {0, 13}) {
                    takeBackAt(n, d, begin, end - 1, 0);
                    takeBackAt(n, d, begin, end, 1);
                    takeBackAt(n, d, begin, end + 1, 1);
                }
            }
        }
    }

    private static void takeBackOnlyEscrow() {
        CHECK.says("Acting 4: it takes back the assets of all arcs from it that are in escrow");
        SwapDesk desk = Desks.planned(5, 2, "01 02 03 04 10 20 30 40");
        desk.deploy(0);
        desk.deploy(1);
        desk.deploy(2);
        desk.deploy(4);
        Desks.show(desk, 4, "0");
        Desks.show(desk, 0, "10");
        desk.pass(100);
        desk.back(1);
        CHECK.due("one paid, one back, one in escrow, one held", desk.act(0), 1);
        CHECK.tell("the one in escrow alone", Desks.states(desk, 8), "23302000");
        CHECK.due("nothing is left", desk.act(0), 0);
    }

    private static void deedsAreCounted() {
        CHECK.says("Terms: Each contract deployed, hashkey shown and asset taken back is one DEED");
        SwapDesk desk = Desks.planned(4, 9, "01 02 03 10 20 30");
        desk.deploy(3);
        desk.deploy(4);
        desk.deploy(5);
        CHECK.due("three deployed, three shown", desk.act(0), 6);
        CHECK.due("one deployed already, one shown", desk.act(1), 1);
        desk.pass(100);
        CHECK.due("two taken back", desk.act(0), 2);
        CHECK.due("nothing to do is no deed", desk.act(0), 0);
        SwapDesk whole = Desks.planned(6, 9, Desks.FOURTEEN);
        CHECK.due("14 deployed, 3 locks of each opened", whole.run(40), 14 + 42);
        CHECK.due("nothing more", whole.run(40), 0);
    }
}
