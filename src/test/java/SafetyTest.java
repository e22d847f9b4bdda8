import java.util.Random;

/**
 * Whoever conforms never pays without being paid: some parties deviate from the begin on and make any moves of
 * their own, the others act every tick; at the end nobody who conforms is underwater. The seeds are fixed.
 */
public final class SafetyTest {
    private static final Check CHECK = new Check("SafetyTest");
    private static final int RUNS = 4000;

    private final Random random;
    private final int n;
    private final SwapDesk desk;
    private final int[] payer = new int[14];
    private final int[] payee = new int[14];
    private final boolean[][] goes = new boolean[6][6];
    private int arcs = 0;
    private int deviants;
    /** No more than an upper bound: what an object answers after 512 calls is free. */
    private int calls = 0;

    private SafetyTest(int seed) {
        random = new Random(seed);
        n = 2 + random.nextInt(5);
        desk = new SwapDesk(n - 2, random.nextInt(2));
        for (int p = 0; p < n; p++) {
            draw(p, (p + 1) % n);
        }
        int more = random.nextInt(10);
        for (int i = 0; i < more; i++) {
            draw(random.nextInt(n), random.nextInt(n));
        }
    }

    public static void main(String[] args) {
        int[] seen = new int[5];
        for (int seed = 0; seed < RUNS; seed++) {
            new SafetyTest(seed).play("seed " + seed, seen);
        }
        // Else the moves would be too tame to tell anything. (Who conforms opens all arcs to it or none: no free ride.)
        for (int outcome = 0; outcome < 3; outcome++) {
            CHECK.due("outcome " + outcome + " comes up", seen[outcome] > 0, true);
        }
        CHECK.end();
    }

    private void draw(int from, int to) {
        if (from == to || goes[from][to] || arcs == 14) {
            return;
        }
        goes[from][to] = true;
        payer[arcs] = from;
        payee[arcs] = to;
        arcs = desk.arc(from, to) + 1;
    }

    private boolean deviates(int party) {
        return (deviants >> party & 1) == 1;
    }

    private void play(String name, int[] seen) {
        int span = desk.plan();
        deviants = random.nextInt(8) == 0 ? 0 : random.nextInt(1 << n);
        for (int p = 0; p < n; p++) {
            desk.conform(p, !deviates(p));
        }
        int moves = 1 + random.nextInt(12);
        calls = 30;
        for (int tick = 0; tick <= 2 * span * 3 + 1; tick++) {
            for (int move = 0; move < moves && calls < 420; move++) {
                deviate();
            }
            desk.run(1);
            calls++;
        }
        for (int p = 0; p < n; p++) {
            if (!deviates(p)) {
                seen[desk.outcome(p)]++;
                CHECK.due(name + ": party " + p + " is underwater", desk.outcome(p) == 4, false);
            }
            if (deviants == 0) {
                CHECK.due(name + ": all conform, party " + p, desk.outcome(p), 1);
            }
        }
    }

    private void deviate() {
        int arc = random.nextInt(arcs);
        calls += 2;
        if (deviates(payer[arc]) && desk.state(arc) == 0 && random.nextInt(4) == 0) {
            desk.deploy(arc);
            calls++;
        }
        if (deviates(payee[arc]) && desk.state(arc) == 1) {
            showSome(arc);
        }
    }

    private void showSome(int arc) {
        desk.clear();
        desk.step(payee[arc]);
        calls += 4;
        int from = random.nextInt(arcs);
        int leader = random.nextInt(n);
        for (int k = 0; random.nextInt(3) != 0 && k < 6 && desk.key(from, leader, k) >= 0; k++) {
            desk.step(desk.key(from, leader, k));
            calls += 3;
        }
        try {
            desk.show(arc);
        } catch (RuntimeException e) {
            desk.clear();
        }
    }
}
