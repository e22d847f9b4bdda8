import java.util.TreeSet;

/** Desks that several tests begin with. */
final class Desks {
    static final Class<IllegalArgumentException> ARGUMENT = IllegalArgumentException.class;
    static final Class<IllegalStateException> STATE = IllegalStateException.class;
    static final Class<IndexOutOfBoundsException> INDEX = IndexOutOfBoundsException.class;
    static final Class<UnsupportedOperationException> UNSUPPORTED = UnsupportedOperationException.class;

    /** 14 arcs among 6 parties, strong; leaders 0, 2 and 4. */
    static final String FOURTEEN = "01 12 23 34 45 50 10 21 32 43 54 05 02 20";

    private Desks() {}

    /** n parties, D, and arcs as pairs of digits: "01 10"; none if it is empty. No plan. */
    static SwapDesk drawn(int n, int d, String arcs) {
        SwapDesk desk = new SwapDesk(n - 2, d - 2);
        for (String arc : arcs.isEmpty() ? new String[0] : arcs.split(" ")) {
            desk.arc(arc.charAt(0) - '0', arc.charAt(1) - '0');
        }
        return desk;
    }

    static SwapDesk planned(int n, int d, String arcs) {
        SwapDesk desk = drawn(n, d, arcs);
        desk.plan();
        return desk;
    }

    /** A plan of these arcs, all in escrow. */
    static SwapDesk deployed(int n, int d, String arcs) {
        SwapDesk desk = planned(n, d, arcs);
        deployAll(desk, count(arcs));
        return desk;
    }

    static void deployAll(SwapDesk desk, int arcs) {
        for (int arc = 0; arc < arcs; arc++) {
            desk.deploy(arc);
        }
    }

    static int count(String arcs) {
        return (arcs.length() + 1) / 3;
    }

    /** The arcs 0 to 1, 1 to 2 and so on back to 0: the span is n - 1, and 0 leads. */
    static String ring(int n) {
        StringBuilder arcs = new StringBuilder();
        for (int party = 0; party < n; party++) {
            arcs.append(party == 0 ? "" : " ").append(party).append((party + 1) % n);
        }
        return arcs.toString();
    }

    /** In the ring of n the path to the leader 0 that is so long. */
    static String ringPath(int n, int length) {
        StringBuilder path = new StringBuilder();
        for (int party = n - length; party < n; party++) {
            path.append(party);
        }
        return path.append(0).toString();
    }

    /** The path at hand becomes these parties. */
    static void lay(SwapDesk desk, String path) {
        desk.clear();
        for (char party : path.toCharArray()) {
            desk.step(party - '0');
        }
    }

    static int show(SwapDesk desk, int arc, String path) {
        lay(desk, path);
        return desk.show(arc);
    }

    /** The path that opened a lock, as digits. */
    static String key(SwapDesk desk, int arc, int leader) {
        StringBuilder path = new StringBuilder();
        for (int k = 0; k < 8 && desk.key(arc, leader, k) >= 0; k++) {
            path.append(desk.key(arc, leader, k));
        }
        return path.toString();
    }

    /** The states of so many arcs, as digits. */
    static String states(SwapDesk desk, int arcs) {
        StringBuilder states = new StringBuilder();
        for (int arc = 0; arc < arcs; arc++) {
            states.append(desk.state(arc));
        }
        return states.toString();
    }

    /**
     * Numbers that are none of 0 .. count - 1: those next to them, the least and the greatest, and those that
     * would pass for one of them if a shift, a narrower type, a sign or a wrap-around were not thought of.
     */
    static int[] outside(int count) {
        TreeSet<Integer> some = new TreeSet<>();
        for (int inside = 0; inside < Math.max(count, 1); inside++) {
            for (int bit = 3; bit < 32; bit++) {
                some.add(inside + (1 << bit));
                some.add(inside - (1 << bit));
            }
            some.add(-inside);
            some.add(~inside);
        }
        some.add(count);
        some.add(count + 1);
        some.add(Integer.MAX_VALUE);
        some.add(Integer.MAX_VALUE - 1);
        some.add(Integer.MIN_VALUE);
        some.add(Integer.MIN_VALUE + 1);
        return some.stream().mapToInt(x -> x).filter(x -> x < 0 || x >= count).toArray();
    }
}
