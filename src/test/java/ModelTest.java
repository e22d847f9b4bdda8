import java.util.List;
import java.util.Random;
import java.util.function.Supplier;

/** Long runs of calls on SwapDesk and on PlainDesk: all answers are the same. The seeds are fixed. */
public final class ModelTest {
    private static final Check CHECK = new Check("ModelTest");
    private static final int RUNS = 3000;
    private static final int CALLS = 512;

    private final Random random;
    private final SwapDesk desk;
    private final PlainDesk plain;
    private final String name;
    private int calls = 0;

    private ModelTest(int seed) {
        random = new Random(seed);
        int parties = random.nextInt(5) == 0 ? random.nextInt() : random.nextInt(5);
        int d = random.nextInt(5) == 0 ? random.nextInt() : random.nextInt(8);
        desk = new SwapDesk(parties, d);
        plain = new PlainDesk(parties, d);
        name = "seed " + seed + ", SwapDesk(" + parties + ", " + d + ")";
    }

    public static void main(String[] args) {
        for (int seed = 0; seed < RUNS; seed++) {
            new ModelTest(seed).play();
        }
        CHECK.end();
    }

    private static String answer(Supplier<Object> call) {
        try {
            return String.valueOf(call.get());
        } catch (RuntimeException e) {
            return "throws." + e.getClass().getSimpleName();
        }
    }

    private void same(String call, Supplier<Object> got, Supplier<Object> want) {
        calls++;
        CHECK.tell(name + ", call " + calls + ": " + call, answer(got), answer(want));
    }

    private void play() {
        if (random.nextInt(4) != 0) {
            draw();
        }
        int wild = random.nextInt(3);
        while (calls < CALLS - 140) {
            if (wild == 0) {
                anyCall();
            } else {
                likelyCall();
            }
        }
        lookAtAll();
    }

    /** A ring in some order, and arcs beside it. */
    private void draw() {
        int n = plain.n();
        int stride = n == 5 ? 1 + random.nextInt(4) : random.nextBoolean() ? 1 : n - 1;
        for (int p = 0; p < n; p++) {
            arc(p, (p + stride) % n);
        }
        int more = random.nextInt(10);
        for (int i = 0; i < more; i++) {
            arc(random.nextInt(n), random.nextInt(n));
        }
        if (random.nextBoolean()) {
            pass(random.nextInt(30));
        }
        plan();
    }

    private int someParty() {
        return random.nextInt(30) == 0 ? wrongNumber() : random.nextInt(plain.n());
    }

    private int someArc() {
        int count = plain.arcCount();
        return count == 0 || random.nextInt(30) == 0 ? wrongNumber() : random.nextInt(count);
    }

    /** Mostly wrong: near the edges, the least and the greatest, or any number at all. */
    private int wrongNumber() {
        return switch (random.nextInt(6)) {
            case 0 -> random.nextBoolean() ? Integer.MIN_VALUE : Integer.MAX_VALUE;
            case 1 -> random.nextInt();
            case 2 -> random.nextInt(6) + (1 << random.nextInt(32));
            default -> random.nextInt(17) - 1;
        };
    }

    private int someTimes() {
        return random.nextInt(3) == 0 ? wrongNumber() : random.nextInt(120) - 10;
    }

    private void anyCall() {
        switch (random.nextInt(17)) {
            case 0 -> arc(someParty(), someParty());
            case 1 -> plan();
            case 2 -> same("leaders()", desk::leaders, plain::leaders);
            case 3 -> conform(someParty(), random.nextBoolean());
            case 4 -> act(someParty());
            case 5 -> run(random.nextInt(20) == 0 ? someTimes() : random.nextInt(3));
            case 6 -> deploy(someArc());
            case 7, 8 -> step(someParty());
            case 9, 10 -> show(someArc());
            case 11 -> clear();
            case 12 -> back(someArc());
            case 13 -> pass(random.nextInt(20) == 0 ? someTimes() : random.nextInt(3));
            default -> look();
        }
    }

    private void likelyCall() {
        switch (random.nextInt(12)) {
            case 0, 1 -> deploy(someArc());
            case 2, 3 -> showAlone();
            case 4, 5, 6 -> showLonger();
            case 7 -> act(someParty());
            case 8 -> anyCall();
            default -> look();
        }
    }

    private void showAlone() {
        int arc = someArc();
        clear();
        if (arc >= 0 && arc < plain.arcCount()) {
            step(plain.payee(arc));
        }
        show(arc);
    }

    private void showLonger() {
        List<List<Integer>> paths = plain.shownPaths();
        int arc = someArc();
        if (paths.isEmpty() || arc < 0 || arc >= plain.arcCount()) {
            return;
        }
        clear();
        step(plain.payee(arc));
        for (int p : paths.get(random.nextInt(paths.size()))) {
            step(p);
        }
        show(arc);
    }

    private void look() {
        int arc = someArc();
        switch (random.nextInt(4)) {
            case 0 -> state(arc);
            case 1 -> open(arc);
            case 2 -> key(arc, someParty(), random.nextInt(20) == 0 ? wrongNumber() : random.nextInt(9) - 1);
            default -> outcome(someParty());
        }
    }

    private void lookAtAll() {
        for (int arc = 0; arc < plain.arcCount(); arc++) {
            state(arc);
            open(arc);
        }
        for (int party = 0; party < plain.n(); party++) {
            outcome(party);
        }
        for (int i = 0; i < 80; i++) {
            key(random.nextInt(14), random.nextInt(6), random.nextInt(7));
        }
    }

    private void arc(int a, int b) {
        same("arc(" + a + ", " + b + ")", () -> desk.arc(a, b), () -> plain.arc(a, b));
    }

    private void plan() {
        same("plan()", desk::plan, plain::plan);
    }

    private void conform(int p, boolean does) {
        same("conform(" + p + ", " + does + ")", () -> desk.conform(p, does), () -> plain.conform(p, does));
    }

    private void act(int p) {
        same("act(" + p + ")", () -> desk.act(p), () -> plain.act(p));
    }

    private void run(int times) {
        same("run(" + times + ")", () -> desk.run(times), () -> plain.run(times));
    }

    private void deploy(int a) {
        same("deploy(" + a + ")", () -> done(() -> desk.deploy(a)), () -> done(() -> plain.deploy(a)));
    }

    private void step(int p) {
        same("step(" + p + ")", () -> desk.step(p), () -> plain.step(p));
    }

    private void show(int a) {
        same("show(" + a + ")", () -> desk.show(a), () -> plain.show(a));
    }

    private void clear() {
        same("clear()", () -> done(desk::clear), () -> done(plain::clear));
    }

    private void back(int a) {
        same("back(" + a + ")", () -> done(() -> desk.back(a)), () -> done(() -> plain.back(a)));
    }

    private void pass(int ticks) {
        same("pass(" + ticks + ")", () -> desk.pass(ticks), () -> plain.pass(ticks));
    }

    private void state(int a) {
        same("state(" + a + ")", () -> desk.state(a), () -> plain.state(a));
    }

    private void open(int a) {
        same("open(" + a + ")", () -> desk.open(a), () -> plain.open(a));
    }

    private void key(int a, int p, int k) {
        same("key(" + a + ", " + p + ", " + k + ")", () -> desk.key(a, p, k), () -> plain.key(a, p, k));
    }

    private void outcome(int p) {
        same("outcome(" + p + ")", () -> desk.outcome(p), () -> plain.outcome(p));
    }

    private static String done(Runnable call) {
        call.run();
        return "done";
    }
}
