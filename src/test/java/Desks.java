/** Desks that several tests begin with. */
final class Desks {
    static final Class<IllegalArgumentException> ARGUMENT = IllegalArgumentException.class;
    static final Class<IllegalStateException> STATE = IllegalStateException.class;
    static final Class<IndexOutOfBoundsException> INDEX = IndexOutOfBoundsException.class;
    static final Class<UnsupportedOperationException> UNSUPPORTED = UnsupportedOperationException.class;

    private Desks() {}

    /** n parties, D, and arcs as pairs of digits: "01 10". No plan. */
    static SwapDesk drawn(int n, int d, String arcs) {
        SwapDesk desk = new SwapDesk(n - 2, d - 2);
        for (String arc : arcs.split(" ")) {
            desk.arc(arc.charAt(0) - '0', arc.charAt(1) - '0');
        }
        return desk;
    }

    static SwapDesk planned(int n, int d, String arcs) {
        SwapDesk desk = drawn(n, d, arcs);
        desk.plan();
        return desk;
    }

    /** The path at hand becomes these parties. */
    static void lay(SwapDesk desk, String path) {
        desk.clear();
        for (char party : path.toCharArray()) {
            desk.step(party - '0');
        }
    }

    static int show(SwapDesk desk, int arc, String path) {
        lay(desk, path);
        return desk.show(arc);
    }

    /** The path that opened a lock, as digits. */
    static String key(SwapDesk desk, int arc, int leader) {
        StringBuilder path = new StringBuilder();
        for (int k = 0; k < 8 && desk.key(arc, leader, k) >= 0; k++) {
            path.append(desk.key(arc, leader, k));
        }
        return path.toString();
    }

    /** The states of so many arcs, as digits. */
    static String states(SwapDesk desk, int arcs) {
        StringBuilder states = new StringBuilder();
        for (int arc = 0; arc < arcs; arc++) {
            states.append(desk.state(arc));
        }
        return states.toString();
    }
}
