/** "The first one named that applies is thrown": every two exceptions of a call that can apply at once. */
public final class FirstNamedTest {
    private static final Check CHECK = new Check("FirstNamedTest");
    private static final int[] FAR = {Integer.MIN_VALUE, -1, 14, Integer.MAX_VALUE};

    public static void main(String[] args) {
        arcWithPlan();
        arcWithFourteen();
        actWithoutPlan();
        deployWithoutPlan();
        showNoArcBeforeNoPath();
        showNoPathBeforeState();
        showNoPathBeforeTime();
        showStateBeforeTime();
        showStateBeforeUnknown();
        backNoArcBeforeState();
        backStateBeforeTime();
        CHECK.end();
    }

    private static void wrongArcs(SwapDesk desk, int n) {
        CHECK.dueThrow("the payer is no party", Desks.ARGUMENT, () -> desk.arc(n, 0));
        CHECK.dueThrow("the payee is no party", Desks.ARGUMENT, () -> desk.arc(0, n));
        CHECK.dueThrow("neither is", Desks.ARGUMENT, () -> desk.arc(Integer.MAX_VALUE, Integer.MIN_VALUE));
        CHECK.dueThrow("both are the same", Desks.ARGUMENT, () -> desk.arc(1, 1));
        CHECK.dueThrow("there is that arc", Desks.ARGUMENT, () -> desk.arc(0, 1));
    }

    private static void arcWithPlan() {
        CHECK.says("2: IllegalArgumentException before IllegalStateException (there is a plan)");
        for (int n = 2; n <= 6; n++) {
            wrongArcs(Desks.planned(n, 2, Desks.ring(n)), n);
        }
    }

    private static void arcWithFourteen() {
        CHECK.says("2: IllegalArgumentException before IllegalStateException (there are 14 arcs)");
        wrongArcs(Desks.drawn(6, 2, Desks.FOURTEEN), 6);
        wrongArcs(Desks.planned(6, 2, Desks.FOURTEEN), 6);
        CHECK.dueThrow("neither", Desks.STATE, () -> Desks.drawn(6, 2, Desks.FOURTEEN).arc(0, 3));
    }

    private static void actWithoutPlan() {
        CHECK.says("6: IllegalArgumentException, IllegalStateException, UnsupportedOperationException");
        SwapDesk desk = Desks.drawn(3, 2, Desks.ring(3));
        desk.conform(1, false);
        for (int none : FAR) {
            CHECK.dueThrow("no party " + none + ", no plan", Desks.ARGUMENT, () -> desk.act(none));
        }
        CHECK.dueThrow("no plan, and it deviates", Desks.STATE, () -> desk.act(1));
        desk.plan();
        CHECK.dueThrow("it deviates", Desks.UNSUPPORTED, () -> desk.act(1));
    }

    private static void deployWithoutPlan() {
        CHECK.says("8: IndexOutOfBoundsException before IllegalStateException");
        SwapDesk desk = Desks.drawn(3, 2, Desks.ring(3));
        for (int none : FAR) {
            CHECK.dueThrow("no arc " + none + ", no plan", Desks.INDEX, () -> desk.deploy(none));
        }
        CHECK.dueThrow("no arc behind the last, no plan", Desks.INDEX, () -> desk.deploy(3));
    }

    private static void showNoArcBeforeNoPath() {
        CHECK.says("10: IndexOutOfBoundsException before all others");
        for (String row : new String[] {"", "1", "12", "000000", "120", "0"}) {
            for (int none : FAR) {
                SwapDesk drawn = Desks.drawn(3, 2, Desks.ring(3));
                Desks.lay(drawn, row);
                CHECK.dueThrow("no plan, row '" + row + "'", Desks.INDEX, () -> drawn.show(none));
                SwapDesk late = Desks.planned(3, 2, Desks.ring(3));
                late.pass(100);
                Desks.lay(late, row);
                CHECK.dueThrow("late, row '" + row + "'", Desks.INDEX, () -> late.show(none));
                CHECK.dueThrow("behind the last", Desks.INDEX, () -> late.show(3));
            }
        }
    }

    /** Arcs 0 to 3 are held, in escrow, paid and back; it is too late for all but the longest paths. */
    private static SwapDesk mixed() {
        SwapDesk desk = Desks.planned(3, 2, "10 01 20 02");
        desk.deploy(1);
        desk.deploy(2);
        desk.deploy(3);
        Desks.show(desk, 2, "0");
        desk.pass(8);
        desk.back(3);
        CHECK.tell("held, in escrow, paid, back", Desks.states(desk, 4), "0123");
        return desk;
    }

    private static void showNoPathBeforeState() {
        CHECK.says("10: IllegalArgumentException before IllegalStateException");
        for (String row : new String[] {"", "1", "2", "02", "12", "21", "00", "012012"}) {
            SwapDesk drawn = Desks.drawn(3, 2, Desks.ring(3));
            Desks.lay(drawn, row);
            CHECK.dueThrow("no plan, row '" + row + "'", Desks.ARGUMENT, () -> drawn.show(0));
            SwapDesk desk = mixed();
            Desks.lay(desk, row);
            CHECK.dueThrow("held, row '" + row + "'", Desks.ARGUMENT, () -> desk.show(0));
            CHECK.dueThrow("paid, row '" + row + "'", Desks.ARGUMENT, () -> desk.show(2));
            CHECK.dueThrow("back, row '" + row + "'", Desks.ARGUMENT, () -> desk.show(3));
        }
        SwapDesk drawn = Desks.drawn(2, 2, "01 10");
        Desks.lay(drawn, "0");
        CHECK.dueThrow("no plan, so 0 is no leader", Desks.ARGUMENT, () -> drawn.show(1));
    }

    private static void showNoPathBeforeTime() {
        CHECK.says("10: IllegalArgumentException before UnsupportedOperationException");
        for (String row : new String[] {"", "0", "1", "2", "20", "12", "01", "1200", "120120"}) {
            SwapDesk desk = Desks.deployed(3, 2, Desks.ring(3));
            Desks.lay(desk, row);
            CHECK.dueThrow("unknown, row '" + row + "'", Desks.ARGUMENT, () -> desk.show(0));
            desk.pass(100);
            CHECK.dueThrow("late, row '" + row + "'", Desks.ARGUMENT, () -> desk.show(0));
        }
    }

    private static void showStateBeforeTime() {
        CHECK.says("10: IllegalStateException before UnsupportedOperationException (not in time)");
        SwapDesk desk = mixed();
        Desks.lay(desk, "0");
        CHECK.dueThrow("held, and late", Desks.STATE, () -> desk.show(0));
        CHECK.dueThrow("paid, and late", Desks.STATE, () -> desk.show(2));
        Desks.lay(desk, "20");
        CHECK.dueThrow("back, and late", Desks.STATE, () -> desk.show(3));
        Desks.lay(desk, "10");
        CHECK.dueThrow("in escrow, and late", Desks.UNSUPPORTED, () -> desk.show(1));
        SwapDesk open = Desks.deployed(4, 2, "01 10 12 21 23 32");
        Desks.show(open, 1, "0");
        open.pass(100);
        Desks.lay(open, "0");
        CHECK.dueThrow("the lock is open, and late", Desks.STATE, () -> open.show(1));
    }

    private static void showStateBeforeUnknown() {
        CHECK.says("10: IllegalStateException before UnsupportedOperationException (may not be shown)");
        SwapDesk desk = Desks.planned(3, 2, Desks.ring(3));
        Desks.lay(desk, "20");
        CHECK.dueThrow("held, and unknown", Desks.STATE, () -> desk.show(1));
        desk.deploy(1);
        CHECK.dueThrow("in escrow, and unknown", Desks.UNSUPPORTED, () -> desk.show(1));
        desk.pass(100);
        CHECK.dueThrow("late, and unknown", Desks.UNSUPPORTED, () -> desk.show(1));
        desk.back(1);
        CHECK.dueThrow("back, late, and unknown", Desks.STATE, () -> desk.show(1));
        // The lock of 0 on 1 2 is open by 2 0; 2 1 0 was never to be shown, as 1 0 was not.
        SwapDesk open = Desks.deployed(4, 9, "01 10 12 21 23 32 02 20");
        Desks.show(open, 7, "0");
        Desks.show(open, 2, "20");
        Desks.lay(open, "210");
        CHECK.dueThrow("the lock is open, and unknown", Desks.STATE, () -> open.show(2));
        SwapDesk paid = Desks.deployed(3, 9, "01 10 12 20");
        CHECK.due("leader", paid.leaders(), 1);
        Desks.show(paid, 1, "0");
        Desks.show(paid, 0, "10");
        Desks.lay(paid, "120");
        CHECK.dueThrow("paid, and unknown", Desks.STATE, () -> paid.show(0));
    }

    private static void backNoArcBeforeState() {
        CHECK.says("12: IndexOutOfBoundsException before all others");
        SwapDesk drawn = Desks.drawn(3, 2, Desks.ring(3));
        SwapDesk planned = Desks.planned(3, 2, Desks.ring(3));
        for (int none : new int[] {Integer.MIN_VALUE, -1, 3, 14, Integer.MAX_VALUE}) {
            CHECK.dueThrow("no arc " + none + ", no plan", Desks.INDEX, () -> drawn.back(none));
            CHECK.dueThrow("no arc " + none + ", too early", Desks.INDEX, () -> planned.back(none));
        }
    }

    private static void backStateBeforeTime() {
        CHECK.says("12: IllegalStateException before UnsupportedOperationException");
        SwapDesk drawn = Desks.drawn(3, 2, Desks.ring(3));
        CHECK.dueThrow("no plan, held", Desks.STATE, () -> drawn.back(0));
        SwapDesk desk = Desks.planned(3, 2, Desks.ring(3));
        CHECK.dueThrow("held, and too early", Desks.STATE, () -> desk.back(0));
        desk.deploy(2);
        CHECK.dueThrow("in escrow, and too early", Desks.UNSUPPORTED, () -> desk.back(2));
        Desks.show(desk, 2, "0");
        CHECK.dueThrow("paid, and too early", Desks.STATE, () -> desk.back(2));
    }
}
