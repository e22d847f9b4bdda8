import java.lang.reflect.Method;
import java.util.ArrayList;
import java.util.List;
import java.util.function.Function;
import java.util.function.Supplier;

/**
 * "What throws leaves everything as it was", and so does what is refused, or only looks.
 * Two desks are brought to the same state; one gets such a call, the other does not; then both are asked
 * everything that can be asked, and what can be done from there on is done with both.
 */
public final class RefusedTest {
    private static final Check CHECK = new Check("RefusedTest");
    private static final int[] FAR = {Integer.MIN_VALUE, -33, -1, 6, 7, 14, 32, 41, 101, Integer.MAX_VALUE};
    private static final String TWO_LEAD = "01 10 12 21 23 32";
    private static final List<Call> CALLS = calls();
    private static final List<List<Call>> QUESTIONS =
        List.of(lookAtAll(), keys(), whatIsAtHand(), lengthAtHand(), whatIsDrawn(), whatComes(), whenItEnds());

    private record Call(String name, Function<SwapDesk, Object> call) {
        String on(SwapDesk desk) {
            try {
                return String.valueOf(call.apply(desk));
            } catch (RuntimeException e) {
                return "throws." + e.getClass().getSimpleName();
            }
        }

        /** What throws is named by the document, and not a class that extends it: no call throws by itself. */
        boolean mayAnswer(String answer) {
            boolean named = !answer.startsWith("throws.");
            for (Method method : SwapDesk.class.getMethods()) {
                for (Class<?> type : method.getExceptionTypes()) {
                    boolean own = name.startsWith(method.getName() + "(");
                    named |= own && answer.equals("throws." + type.getSimpleName());
                }
            }
            return named;
        }

        /** Whether such an answer means that nothing was changed. */
        boolean changesNothing(String answer) {
            boolean refused = answer.startsWith("throws.") || answer.equals("false") || answer.equals("-1");
            boolean looks = name.matches("(leaders|state|open|key|outcome)\\(.*");
            return refused || looks || name.equals("run(0)") || name.equals("pass(0)");
        }
    }

    public static void main(String[] args) {
        askFrom("bare", () -> new SwapDesk(1, 0));
        askFrom("a row at hand, no arcs", () -> laid(new SwapDesk(4, 0), "012345"));
        askFrom("not strong", () -> laid(Desks.drawn(3, 2, "01 12"), "12"));
        askFrom("strong, no plan", () -> laid(Desks.drawn(3, 3, Desks.ring(3)), "0"));
        askFrom("14 arcs, no plan", () -> laid(Desks.drawn(6, 2, Desks.FOURTEEN), "01"));
        askFrom("planned", () -> laid(begun(3, Desks.ring(3)), "0"));
        askFrom("14 arcs, planned", () -> laid(begun(6, Desks.FOURTEEN), "10"));
        askFrom("under way", () -> laid(underWay(), "210"));
        askFrom("under way, a row that is no path", () -> laid(underWay(), "2121"));
        askFrom("under way, a full row", () -> laid(underWay(), "012323"));
        askFrom("under way, an empty row", () -> laid(underWay(), ""));
        askFrom("too late for some", () -> laid(after(underWay(), 12), "210"));
        askFrom("over", () -> laid(after(underWay(), 100), "210"));
        askFrom("some had back", RefusedTest::someBack);
        askFrom("all paid", RefusedTest::allPaid);
        CHECK.end();
    }

    private static SwapDesk laid(SwapDesk desk, String row) {
        Desks.lay(desk, row);
        return desk;
    }

    private static SwapDesk begun(int n, String arcs) {
        SwapDesk desk = Desks.drawn(n, 3, arcs);
        desk.pass(5);
        desk.plan();
        desk.conform(1, false);
        return desk;
    }

    /** Leaders 0 and 2, begin 5, span 3, D 3; 2 1 0 may be shown next on 1 2 or 3 2; arc 4 is held. */
    private static SwapDesk underWay() {
        SwapDesk desk = begun(4, TWO_LEAD);
        for (int arc : new int[] {0, 1, 2, 3, 5}) {
            desk.deploy(arc);
        }
        Desks.show(desk, 1, "0");
        Desks.show(desk, 3, "10");
        Desks.show(desk, 2, "2");
        Desks.show(desk, 3, "12");
        desk.pass(2);
        return desk;
    }

    private static SwapDesk after(SwapDesk desk, int ticks) {
        desk.pass(ticks);
        return desk;
    }

    private static SwapDesk someBack() {
        SwapDesk desk = after(underWay(), 100);
        desk.back(1);
        desk.back(0);
        return laid(desk, "012");
    }

    private static SwapDesk allPaid() {
        SwapDesk desk = Desks.planned(6, 9, Desks.FOURTEEN);
        desk.run(40);
        return laid(desk, "54");
    }

    private static void askFrom(String name, Supplier<SwapDesk> state) {
        CHECK.says("What throws leaves everything as it was, from: " + name);
        List<String> due = asked(state, null);
        int refused = 0;
        for (Call call : CALLS) {
            String answer = call.on(state.get());
            CHECK.due(call.name() + " answers " + answer + ", as its face says", call.mayAnswer(answer), true);
            if (call.changesNothing(answer)) {
                List<String> got = asked(state, call);
                for (int question = 0; question < due.size(); question++) {
                    String what = call.name() + ", which answers " + answer + ", question " + question;
                    CHECK.tell(what, got.get(question), due.get(question));
                }
                refused++;
            }
        }
        CHECK.due("enough of the calls are such ones", refused > 100, true);
    }

    /** Each question is put to a desk of its own, as a desk serves 512 calls. */
    private static List<String> asked(Supplier<SwapDesk> state, Call before) {
        List<String> answers = new ArrayList<>();
        for (List<Call> question : QUESTIONS) {
            SwapDesk desk = state.get();
            if (before != null) {
                before.on(desk);
            }
            StringBuilder answer = new StringBuilder();
            for (Call call : question) {
                answer.append(' ').append(call.on(desk));
            }
            answers.add(answer.toString());
        }
        return answers;
    }

    private static int[] withFar(int count) {
        int[] some = new int[count + FAR.length];
        for (int k = 0; k < count; k++) {
            some[k] = k;
        }
        System.arraycopy(FAR, 0, some, count, FAR.length);
        return some;
    }

    /** Calls of every method, with arguments that are right and wrong. */
    private static List<Call> calls() {
        List<Call> calls = new ArrayList<>();
        calls.add(new Call("plan()", SwapDesk::plan));
        calls.add(new Call("leaders()", SwapDesk::leaders));
        for (int a : withFar(6)) {
            for (int b : withFar(6)) {
                calls.add(new Call("arc(" + a + ", " + b + ")", desk -> desk.arc(a, b)));
            }
            calls.add(conform(a, true));
            calls.add(conform(a, false));
            calls.add(new Call("act(" + a + ")", desk -> desk.act(a)));
            calls.add(new Call("step(" + a + ")", desk -> desk.step(a)));
            calls.add(new Call("outcome(" + a + ")", desk -> desk.outcome(a)));
        }
        for (int a : withFar(14)) {
            calls.add(deploy(a));
            calls.add(show(a));
            calls.add(back(a));
            calls.add(state(a));
            calls.add(new Call("open(" + a + ")", desk -> desk.open(a)));
            calls.add(key(a, 0, 0));
            calls.add(key(3, a, 0));
            calls.add(key(3, 0, a));
        }
        for (int a : withFar(1)) {
            calls.add(new Call("run(" + a + ")", desk -> desk.run(a)));
            calls.add(new Call("pass(" + a + ")", desk -> desk.pass(a)));
        }
        return calls;
    }

    private static List<Call> lookAtAll() {
        List<Call> calls = new ArrayList<>();
        calls.add(new Call("leaders()", SwapDesk::leaders));
        calls.add(new Call("pass(0)", desk -> desk.pass(0)));
        for (int arc = 0; arc < 14; arc++) {
            int a = arc;
            calls.add(state(a));
            calls.add(new Call("open", desk -> desk.open(a)));
        }
        for (int party = 0; party < 6; party++) {
            int p = party;
            calls.add(new Call("outcome", desk -> desk.outcome(p)));
            calls.add(conform(p, false));
        }
        return calls;
    }

    private static List<Call> keys() {
        List<Call> calls = new ArrayList<>();
        for (int arc = 0; arc < 14; arc++) {
            for (int leader = 0; leader < 6; leader++) {
                for (int k = 0; k < 5; k++) {
                    calls.add(key(arc, leader, k));
                }
            }
        }
        return calls;
    }

    /** What can be shown, and the paths that it then stays with. */
    private static List<Call> whatIsAtHand() {
        List<Call> calls = new ArrayList<>();
        for (int arc = 0; arc < 14; arc++) {
            calls.add(show(arc));
        }
        for (int arc = 0; arc < 14; arc++) {
            for (int k = 0; k < 6; k++) {
                calls.add(key(arc, 0, k));
                calls.add(key(arc, 2, k));
            }
        }
        return calls;
    }

    private static List<Call> lengthAtHand() {
        List<Call> calls = new ArrayList<>();
        for (int k = 0; k < 7; k++) {
            calls.add(new Call("step(0)", desk -> desk.step(0)));
        }
        return calls;
    }

    private static List<Call> whatIsDrawn() {
        List<Call> calls = new ArrayList<>();
        for (int payer = 0; payer < 6; payer++) {
            for (int payee = 0; payee < 6; payee++) {
                int a = payer;
                int b = payee;
                calls.add(new Call("arc", desk -> desk.arc(a, b)));
            }
        }
        calls.add(new Call("plan()", SwapDesk::plan));
        calls.add(new Call("leaders()", SwapDesk::leaders));
        return calls;
    }

    private static List<Call> whatComes() {
        List<Call> calls = new ArrayList<>();
        calls.add(new Call("plan()", SwapDesk::plan));
        for (int round = 0; round < 40; round++) {
            calls.add(new Call("run(1)", desk -> desk.run(1)));
            calls.add(state(round % 14));
        }
        for (int arc = 0; arc < 14; arc++) {
            calls.add(state(arc));
        }
        return calls;
    }

    private static List<Call> whenItEnds() {
        List<Call> calls = new ArrayList<>();
        calls.add(new Call("plan()", SwapDesk::plan));
        for (int arc = 0; arc < 14; arc++) {
            calls.add(deploy(arc));
        }
        for (int tick = 0; tick < 50; tick++) {
            calls.add(back(tick % 6));
            calls.add(new Call("pass(1)", desk -> desk.pass(1)));
        }
        return calls;
    }

    private static Call conform(int p, boolean does) {
        return new Call("conform(" + p + ", " + does + ")", desk -> desk.conform(p, does));
    }

    private static Call deploy(int a) {
        return new Call("deploy(" + a + ")", desk -> {
            desk.deploy(a);
            return "done";
        });
    }

    private static Call show(int a) {
        return new Call("show(" + a + ")", desk -> desk.show(a));
    }

    private static Call back(int a) {
        return new Call("back(" + a + ")", desk -> {
            desk.back(a);
            return "done";
        });
    }

    private static Call state(int a) {
        return new Call("state(" + a + ")", desk -> desk.state(a));
    }

    private static Call key(int a, int leader, int k) {
        return new Call("key(" + a + ", " + leader + ", " + k + ")", desk -> desk.key(a, leader, k));
    }
}
