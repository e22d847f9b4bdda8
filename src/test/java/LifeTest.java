import java.lang.reflect.InvocationTargetException;
import java.lang.reflect.Method;
import java.lang.reflect.Modifier;
import java.util.ArrayList;
import java.util.Arrays;
import java.util.Comparator;
import java.util.List;
import java.util.Random;

/**
 * A desk up to its 512th call, desks side by side, and no call that throws by itself in any state: what a desk answers
 * after 512 calls is free, but what it may throw is not. The seeds are fixed.
 */
public final class LifeTest {
    private static final Check CHECK = new Check("LifeTest");
    private static final int CALLS = 512;
    private static final List<Method> FACE = face();

    /** A call with all that it is given. */
    private record Call(Method method, Object[] given) {
        String on(SwapDesk desk) {
            try {
                return String.valueOf(method.invoke(desk, given));
            } catch (InvocationTargetException e) {
                return "throws." + e.getCause().getClass().getName();
            } catch (IllegalAccessException e) {
                return "not to be called";
            }
        }

        /** Of the exceptions those alone that the face names, and none that extends one of them. */
        boolean mayAnswer(String answer) {
            boolean named = !answer.startsWith("throws.");
            for (Class<?> type : method.getExceptionTypes()) {
                named |= answer.equals("throws." + type.getName());
            }
            return named;
        }

        String told() {
            return method.getName() + Arrays.toString(given);
        }
    }

    public static void main(String[] args) {
        lateBegin();
        lateRuns();
        lastCallIsKept();
        sideBySide();
        neverByItself();
        timeBeyondAllBounds();
        CHECK.end();
    }

    /** By name, as reflection tells them in no order. */
    private static List<Method> face() {
        List<Method> face = new ArrayList<>();
        for (Method method : SwapDesk.class.getDeclaredMethods()) {
            if (Modifier.isPublic(method.getModifiers())) {
                face.add(method);
            }
        }
        face.sort(Comparator.comparing(Method::getName));
        return face;
    }

    private static void lateBegin() {
        CHECK.says("What it is: at most 512 calls (as late a begin as they allow)");
        SwapDesk desk = Desks.drawn(2, 9, "01 10");
        int calls = 2;
        for (; calls < CALLS - 10; calls++) {
            CHECK.due("pass(100)", desk.pass(100), (calls - 1) * 100);
        }
        CHECK.due("plan()", desk.plan(), 1);
        desk.deploy(0);
        desk.deploy(1);
        CHECK.due("pass(8)", desk.pass(8), 50008);
        CHECK.due("the leader shows itself at the last moment", desk.act(0), 1);
        desk.pass(9);
        CHECK.dueThrow("too early", Desks.UNSUPPORTED, () -> desk.back(0));
        desk.pass(1);
        desk.back(0);
        CHECK.due("the 512th call", desk.outcome(1), 4);
    }

    private static void lateRuns() {
        CHECK.says("What it is: at most 512 calls (as much time by run as they allow)");
        SwapDesk desk = Desks.planned(6, 2, Desks.ring(6));
        int deeds = 0;
        for (int calls = 7; calls < CALLS - 1; calls++) {
            deeds += desk.run(40);
        }
        CHECK.due("deeds: six contracts deployed, six hashkeys shown", deeds, 12);
        CHECK.due("the 512th call", desk.pass(0), (CALLS - 8) * 40);
    }

    private static void lastCallIsKept() {
        CHECK.says("What it is: at most 512 calls (the last one is like the others)");
        SwapDesk steps = new SwapDesk(4, 0);
        for (int calls = 1; calls <= CALLS; calls++) {
            int inRow = calls % 8;
            if (inRow == 0) {
                steps.clear();
            } else {
                CHECK.due("step, call " + calls, steps.step(inRow % 6), inRow <= 6 ? inRow : -1);
            }
        }
        SwapDesk looks = Desks.planned(2, 2, "01 10");
        for (int calls = 4; calls < CALLS; calls++) {
            CHECK.due("state, call " + calls, looks.state(calls % 2), 0);
        }
        CHECK.due("act, the 512th call", looks.act(0), 1);
    }

    private static int someNumber(Random random) {
        return switch (random.nextInt(12)) {
            case 0 -> random.nextInt();
            case 1 -> 1 << random.nextInt(32);
            case 2 -> random.nextInt(120) - 10;
            case 3 -> random.nextInt(16) - 1;
            default -> random.nextInt(6);
        };
    }

    private static Call someCall(Random random) {
        Method method = FACE.get(random.nextInt(FACE.size()));
        Class<?>[] types = method.getParameterTypes();
        Object[] given = new Object[types.length];
        for (int i = 0; i < given.length; i++) {
            given[i] = types[i] == boolean.class ? (Object) random.nextBoolean() : (Object) someNumber(random);
        }
        return new Call(method, given);
    }

    /** Some are bare, some have a ring, some a plan too, and some have all in escrow. */
    private static SwapDesk someDesk(int seed) {
        int n = 2 + seed % 5;
        return switch (seed / 5 % 4) {
            case 0 -> new SwapDesk(n - 2, seed);
            case 1 -> Desks.drawn(n, 2 + seed % 8, Desks.ring(n));
            case 2 -> Desks.planned(n, 2 + seed % 8, Desks.ring(n));
            default -> Desks.deployed(n, 2 + seed % 8, Desks.ring(n));
        };
    }

    private static void sideBySide() {
        CHECK.says("Promise 1: A new object (what is done with others does not change it)");
        int count = 60;
        int most = 480;
        List<SwapDesk> desks = new ArrayList<>();
        List<Random> randoms = new ArrayList<>();
        List<StringBuilder> together = new ArrayList<>();
        for (int i = 0; i < count; i++) {
            desks.add(someDesk(i));
            randoms.add(new Random(i));
            together.add(new StringBuilder());
        }
        for (int call = 0; call < most; call++) {
            for (int i = 0; i < count; i++) {
                together.get(i).append(' ').append(someCall(randoms.get(i)).on(desks.get(i)));
            }
        }
        for (int i = 0; i < count; i++) {
            SwapDesk desk = someDesk(i);
            Random random = new Random(i);
            StringBuilder alone = new StringBuilder();
            for (int call = 0; call < most; call++) {
                alone.append(' ').append(someCall(random).on(desk));
            }
            CHECK.tell("desk " + i + ", side by side and alone", together.get(i).toString(), alone.toString());
        }
    }

    private static void dueAsNamed(SwapDesk desk, Call call) {
        String answer = call.on(desk);
        CHECK.due(call.told() + " answers " + answer + ", as its face says", call.mayAnswer(answer), true);
    }

    private static void neverByItself() {
        CHECK.says("LANGUAGE 7: No call may ever throw by itself (far more than 512 calls)");
        for (int seed = 0; seed < 40; seed++) {
            Random random = new Random(seed);
            SwapDesk desk = someDesk(seed);
            for (int call = 0; call < 8000; call++) {
                dueAsNamed(desk, someCall(random));
            }
        }
    }

    /** So many calls that the time grows beyond what an int holds. */
    private static void timeBeyondAllBounds() {
        CHECK.says("LANGUAGE 7: No call may ever throw by itself (for any time)");
        SwapDesk desk = Desks.deployed(6, 9, Desks.FOURTEEN);
        int calls = Integer.MAX_VALUE / 100 - 1;
        for (int call = 0; call < calls; call++) {
            desk.pass(100);
        }
        Random random = new Random(0);
        for (int call = 0; call < 8000; call++) {
            dueAsNamed(desk, someCall(random));
        }
    }
}
