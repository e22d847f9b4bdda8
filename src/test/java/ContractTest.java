/** Promises 8 to 13: deploy, step, show, clear, back, pass. */
public final class ContractTest {
    private static final Check CHECK = new Check("ContractTest");

    public static void main(String[] args) {
        deployStates();
        deployWrong();
        stepRow();
        stepWrong();
        showOpens();
        showPaysWhenAllAreOpen();
        showNoSuchArc();
        showNoPath();
        showWithoutPlan();
        showWrongState();
        showInTime();
        showOnlyWhatIsKnown();
        showLeavesThingsAlone();
        showFirstNamed();
        clearRow();
        backStates();
        backWrong();
        passTicks();
        CHECK.end();
    }

    private static SwapDesk ring() {
        SwapDesk desk = Desks.planned(3, 2, "01 12 20");
        for (int arc = 0; arc < 3; arc++) {
            desk.deploy(arc);
        }
        return desk;
    }

    private static void deployStates() {
        SwapDesk desk = Desks.planned(3, 2, "01 12 20");
        desk.conform(1, false);
        desk.deploy(1);
        CHECK.tell("one that deviates deploys", Desks.states(desk, 3), "010");
        desk.deploy(2);
        CHECK.tell("one that conforms too, at any time", Desks.states(desk, 3), "011");
        CHECK.due("no lock is open", desk.open(2), 0);
        desk.pass(100);
        desk.deploy(0);
        CHECK.tell("late as well", Desks.states(desk, 3), "111");
    }

    private static void deployWrong() {
        SwapDesk desk = Desks.drawn(3, 2, "01 12 20");
        for (int arc : new int[] {-1, 3, 13, 14, Integer.MAX_VALUE, Integer.MIN_VALUE}) {
            CHECK.dueThrow("no such arc, no plan", Desks.INDEX, () -> desk.deploy(arc));
        }
        CHECK.dueThrow("no plan", Desks.STATE, () -> desk.deploy(0));
        CHECK.due("held still", desk.state(0), 0);
        desk.plan();
        CHECK.dueThrow("no such arc", Desks.INDEX, () -> desk.deploy(3));
        desk.deploy(0);
        CHECK.dueThrow("in escrow already", Desks.STATE, () -> desk.deploy(0));
        desk.deploy(2);
        Desks.show(desk, 2, "0");
        CHECK.dueThrow("paid already", Desks.STATE, () -> desk.deploy(2));
        desk.pass(8);
        desk.back(0);
        CHECK.dueThrow("back already", Desks.STATE, () -> desk.deploy(0));
        CHECK.tell("as they were", Desks.states(desk, 3), "302");
    }

    private static void stepRow() {
        SwapDesk desk = new SwapDesk(4, 0);
        for (int k = 1; k <= 6; k++) {
            CHECK.due("step " + k, desk.step(6 - k), k);
        }
        CHECK.due("6 are there", desk.step(0), -1);
        CHECK.due("6 are there still", desk.step(0), -1);
        SwapDesk same = new SwapDesk(0, 0);
        for (int k = 1; k <= 6; k++) {
            CHECK.due("a row may name a party again, step " + k, same.step(1), k);
        }
        CHECK.due("6 of the same", same.step(1), -1);
        SwapDesk whole = Desks.planned(6, 2, "01 12 23 34 45 50");
        CHECK.due("leader", whole.leaders(), 1);
        whole.deploy(5);
        whole.deploy(4);
        whole.deploy(3);
        whole.deploy(2);
        whole.deploy(1);
        whole.deploy(0);
        Desks.show(whole, 5, "0");
        Desks.show(whole, 4, "50");
        Desks.show(whole, 3, "450");
        Desks.show(whole, 2, "3450");
        Desks.show(whole, 1, "23450");
        Desks.lay(whole, "123450");
        CHECK.due("a seventh", whole.step(1), -1);
        CHECK.due("a path of 6 parties, the seventh was refused", whole.show(0), 1);
        CHECK.tell("all of it", Desks.key(whole, 0, 0), "123450");
    }

    private static void stepWrong() {
        SwapDesk desk = new SwapDesk(1, 0);
        for (int party : new int[] {-1, 3, 5, 7, 8, 32, Integer.MAX_VALUE, Integer.MIN_VALUE}) {
            CHECK.due("step(" + party + ")", desk.step(party), -1);
        }
        CHECK.due("nothing was appended", desk.step(2), 1);
        CHECK.due("no such party", desk.step(3), -1);
        CHECK.due("nothing was appended again", desk.step(2), 2);
    }

    private static void showOpens() {
        SwapDesk desk = ring();
        CHECK.due("the only lock", Desks.show(desk, 2, "0"), 1);
        CHECK.due("the row is empty then", desk.step(1), 1);
        CHECK.due("paid", desk.state(2), 2);
        CHECK.due("open", desk.open(2), 1);
        CHECK.due("the next", Desks.show(desk, 1, "20"), 1);
        CHECK.tell("its path", Desks.key(desk, 1, 0), "20");
        CHECK.due("the last", Desks.show(desk, 0, "120"), 1);
        CHECK.tell("all paid", Desks.states(desk, 3), "222");
        SwapDesk apart = ring();
        apart.conform(0, false);
        CHECK.due("one that deviates shows too", Desks.show(apart, 2, "0"), 1);
    }

    private static void showPaysWhenAllAreOpen() {
        // Leaders 0, 2 and 4; on 5 4 party 4 opens its own, then that of 2, then that of 0.
        SwapDesk desk = Desks.planned(6, 9, "01 10 12 21 23 32 34 43 45 54");
        CHECK.due("leaders", desk.leaders(), 21);
        for (int arc = 0; arc < 10; arc++) {
            desk.deploy(arc);
        }
        Desks.show(desk, 1, "0");
        Desks.show(desk, 3, "10");
        Desks.show(desk, 5, "210");
        CHECK.due("two locks are open then", Desks.show(desk, 5, "2"), 2);
        Desks.show(desk, 7, "3210");
        Desks.show(desk, 7, "32");
        CHECK.due("one lock", Desks.show(desk, 9, "4"), 1);
        CHECK.due("two locks", Desks.show(desk, 9, "432"), 2);
        CHECK.due("open", desk.open(9), 20);
        CHECK.due("in escrow still", desk.state(9), 1);
        CHECK.due("three locks", Desks.show(desk, 9, "43210"), 3);
        CHECK.due("paid", desk.state(9), 2);
        CHECK.tell("path to 0", Desks.key(desk, 9, 0), "43210");
        CHECK.tell("path to 2", Desks.key(desk, 9, 2), "432");
        CHECK.tell("path to 4", Desks.key(desk, 9, 4), "4");
    }

    private static void showNoSuchArc() {
        SwapDesk desk = ring();
        Desks.lay(desk, "0");
        for (int arc : new int[] {-1, 3, 14, Integer.MAX_VALUE, Integer.MIN_VALUE}) {
            CHECK.dueThrow("show(" + arc + ")", Desks.INDEX, () -> desk.show(arc));
        }
        CHECK.due("the row stays", desk.show(2), 1);
    }

    private static void noPath(SwapDesk desk, int arc, String row) {
        Desks.lay(desk, row);
        CHECK.dueThrow("on arc " + arc + " the row '" + row + "'", Desks.ARGUMENT, () -> desk.show(arc));
    }

    private static void showNoPath() {
        SwapDesk desk = Desks.planned(4, 9, "01 10 12 21 23 32");
        for (int arc = 0; arc < 6; arc++) {
            desk.deploy(arc);
        }
        noPath(desk, 1, "");
        noPath(desk, 1, "2");
        noPath(desk, 0, "1");
        noPath(desk, 1, "01");
        noPath(desk, 0, "0");
        noPath(desk, 0, "13");
        noPath(desk, 1, "02");
        noPath(desk, 1, "00");
        noPath(desk, 1, "010");
        noPath(desk, 1, "012121");
        noPath(desk, 1, "01232");
        noPath(desk, 4, "312");
        noPath(desk, 0, "1032");
        Desks.show(desk, 1, "0");
        Desks.show(desk, 3, "10");
        noPath(desk, 2, "2101");
        // A path goes along the arcs, not against them.
        SwapDesk round = ring();
        Desks.show(round, 2, "0");
        noPath(round, 0, "10");
        noPath(round, 1, "210");
    }

    private static void showWithoutPlan() {
        SwapDesk desk = Desks.drawn(2, 2, "01 10");
        Desks.lay(desk, "0");
        CHECK.dueThrow("without a plan there are no leaders", Desks.ARGUMENT, () -> desk.show(1));
        CHECK.dueThrow("no such arc", Desks.INDEX, () -> desk.show(2));
        desk.plan();
        CHECK.dueThrow("not in escrow", Desks.STATE, () -> desk.show(1));
        desk.deploy(1);
        CHECK.due("the row has stayed", desk.show(1), 1);
    }

    private static void showWrongState() {
        SwapDesk desk = Desks.planned(4, 2, "01 10 12 21 23 32");
        Desks.lay(desk, "0");
        CHECK.dueThrow("held", Desks.STATE, () -> desk.show(1));
        desk.deploy(1);
        CHECK.due("in escrow", desk.show(1), 1);
        Desks.lay(desk, "0");
        CHECK.dueThrow("the lock is open", Desks.STATE, () -> desk.show(1));
        CHECK.due("in escrow still", desk.state(1), 1);
        Desks.lay(desk, "012");
        CHECK.dueThrow("another lock of it, of which nothing is known", Desks.UNSUPPORTED, () -> desk.show(1));
        SwapDesk paid = ring();
        Desks.show(paid, 2, "0");
        Desks.lay(paid, "0");
        CHECK.dueThrow("paid", Desks.STATE, () -> paid.show(2));
        SwapDesk gone = ring();
        gone.pass(8);
        gone.back(2);
        Desks.lay(gone, "0");
        CHECK.dueThrow("back", Desks.STATE, () -> gone.show(2));
    }

    /** Span 2, D 3, begin 4: a path of that length is next to be shown, so much after the begin. */
    private static SwapDesk before(int length, int after) {
        SwapDesk desk = Desks.drawn(3, 3, "01 12 20");
        desk.pass(4);
        desk.plan();
        for (int arc = 0; arc < 3; arc++) {
            desk.deploy(arc);
        }
        for (int shorter = 0; shorter < length; shorter++) {
            Desks.show(desk, 2 - shorter, "120".substring(2 - shorter));
        }
        desk.pass(after);
        Desks.lay(desk, "120".substring(2 - length));
        return desk;
    }

    private static void showInTime() {
        for (int length = 0; length < 3; length++) {
            int arc = 2 - length;
            int end = (2 + length) * 3;
            SwapDesk early = before(length, end - 1);
            CHECK.due("just in time, length " + length, early.show(arc), 1);
            CHECK.due("paid, length " + length, early.state(arc), 2);
            SwapDesk late = before(length, end);
            CHECK.dueThrow("too late, length " + length, Desks.UNSUPPORTED, () -> late.show(arc));
            CHECK.due("not paid, length " + length, late.state(arc), 1);
        }
    }

    private static void showOnlyWhatIsKnown() {
        SwapDesk desk = Desks.planned(4, 9, "01 10 12 21 23 32 02 20");
        CHECK.due("leaders", desk.leaders(), 5);
        for (int arc = 0; arc < 8; arc++) {
            desk.deploy(arc);
        }
        Desks.lay(desk, "10");
        CHECK.dueThrow("0 has shown nothing", Desks.UNSUPPORTED, () -> desk.show(3));
        Desks.show(desk, 1, "0");
        CHECK.due("0 has", Desks.show(desk, 3, "10"), 1);
        Desks.lay(desk, "210");
        CHECK.due("on any contract", desk.show(5), 1);
        Desks.lay(desk, "320");
        CHECK.dueThrow("2 0 was not shown, though 2 1 0 was", Desks.UNSUPPORTED, () -> desk.show(4));
        Desks.lay(desk, "3210");
        CHECK.due("2 1 0 was", desk.show(4), 1);
        Desks.lay(desk, "12");
        CHECK.dueThrow("the key of another leader", Desks.UNSUPPORTED, () -> desk.show(0));
        CHECK.due("nothing came of it", desk.open(0), 0);
        SwapDesk over = Desks.planned(3, 2, "01 10 12 21");
        CHECK.due("leader", over.leaders(), 2);
        over.deploy(0);
        over.deploy(1);
        over.deploy(2);
        Desks.show(over, 0, "1");
        CHECK.due("a paid arc keeps what was shown", Desks.show(over, 1, "01"), 1);
        CHECK.due("another party, by that on 0 1", Desks.show(over, 2, "21"), 1);
    }

    private static void showLeavesThingsAlone() {
        SwapDesk desk = ring();
        Desks.lay(desk, "20");
        CHECK.dueThrow("nothing is known of 0", Desks.UNSUPPORTED, () -> desk.show(1));
        CHECK.due("the row stays", desk.step(1), 3);
        CHECK.dueThrow("no path now", Desks.ARGUMENT, () -> desk.show(1));
        CHECK.due("the row stays again", desk.step(1), 4);
        CHECK.tell("states", Desks.states(desk, 3), "111");
        CHECK.due("locks", desk.open(0) + desk.open(1) + desk.open(2), 0);
    }

    private static void showFirstNamed() {
        SwapDesk desk = Desks.planned(3, 2, "01 12 20");
        desk.pass(50);
        Desks.lay(desk, "12");
        CHECK.dueThrow("no leader, held, late", Desks.ARGUMENT, () -> desk.show(0));
        CHECK.dueThrow("no such arc before all", Desks.INDEX, () -> desk.show(3));
        Desks.lay(desk, "120");
        CHECK.dueThrow("held, late and unknown", Desks.STATE, () -> desk.show(0));
        desk.deploy(0);
        CHECK.dueThrow("late and unknown", Desks.UNSUPPORTED, () -> desk.show(0));
    }

    private static void clearRow() {
        SwapDesk desk = new SwapDesk(4, 0);
        desk.clear();
        CHECK.due("first", desk.step(3), 1);
        CHECK.due("second", desk.step(4), 2);
        desk.clear();
        CHECK.due("first again", desk.step(5), 1);
        for (int k = 0; k < 9; k++) {
            desk.step(5);
        }
        desk.clear();
        CHECK.due("a full row is emptied", desk.step(5), 1);
        SwapDesk other = ring();
        Desks.lay(other, "20");
        other.clear();
        CHECK.dueThrow("an empty row is no path", Desks.ARGUMENT, () -> other.show(2));
        other.step(0);
        CHECK.due("nothing of the old row is left", other.show(2), 1);
    }

    private static void backStates() {
        SwapDesk desk = Desks.drawn(3, 5, "01 12 20");
        desk.pass(3);
        desk.plan();
        desk.deploy(0);
        desk.deploy(2);
        desk.conform(2, false);
        desk.pass(19);
        CHECK.dueThrow("too early", Desks.UNSUPPORTED, () -> desk.back(0));
        CHECK.due("in escrow still", desk.state(0), 1);
        desk.pass(1);
        desk.back(0);
        desk.back(2);
        CHECK.tell("just in time", Desks.states(desk, 3), "303");
        desk.pass(100);
        desk.deploy(1);
        desk.back(1);
        CHECK.tell("later as well", Desks.states(desk, 3), "333");
        SwapDesk half = Desks.planned(4, 2, "01 10 12 21 23 32");
        half.deploy(1);
        Desks.show(half, 1, "0");
        half.pass(12);
        half.back(1);
        CHECK.due("one lock of two is not enough", half.state(1), 3);
        CHECK.due("the lock stays open", half.open(1), 1);
        CHECK.tell("with its path", Desks.key(half, 1, 0), "0");
    }

    private static void backWrong() {
        SwapDesk desk = Desks.drawn(3, 2, "01 12 20");
        for (int arc : new int[] {-1, 3, 14, Integer.MAX_VALUE, Integer.MIN_VALUE}) {
            CHECK.dueThrow("back(" + arc + ")", Desks.INDEX, () -> desk.back(arc));
        }
        CHECK.dueThrow("no plan, held", Desks.STATE, () -> desk.back(0));
        desk.plan();
        CHECK.dueThrow("held, and too early", Desks.STATE, () -> desk.back(0));
        desk.deploy(0);
        desk.deploy(2);
        CHECK.dueThrow("too early", Desks.UNSUPPORTED, () -> desk.back(0));
        Desks.show(desk, 2, "0");
        CHECK.dueThrow("paid, and too early", Desks.STATE, () -> desk.back(2));
        desk.pass(100);
        CHECK.dueThrow("held", Desks.STATE, () -> desk.back(1));
        CHECK.dueThrow("paid", Desks.STATE, () -> desk.back(2));
        desk.back(0);
        CHECK.dueThrow("back already", Desks.STATE, () -> desk.back(0));
        CHECK.tell("as they were", Desks.states(desk, 3), "302");
    }

    private static void passTicks() {
        SwapDesk desk = new SwapDesk(0, 0);
        CHECK.due("pass(0)", desk.pass(0), 0);
        CHECK.due("pass(1)", desk.pass(1), 1);
        CHECK.due("pass(100)", desk.pass(100), 101);
        for (int ticks : new int[] {-1, 101, 200, Integer.MAX_VALUE, Integer.MIN_VALUE}) {
            CHECK.due("pass(" + ticks + ")", desk.pass(ticks), -1);
        }
        CHECK.due("nothing has passed", desk.pass(0), 101);
        desk.run(2);
        CHECK.due("run lets time pass", desk.pass(99), 202);
        SwapDesk worn = new SwapDesk(0, 0);
        for (int call = 1; call <= 512; call++) {
            CHECK.due("call " + call, worn.pass(100), 100 * call);
        }
    }
}
