import java.util.ArrayList;
import java.util.HashSet;
import java.util.List;
import java.util.Map;
import java.util.Set;
import java.util.TreeMap;

/**
 * The document once more, word by word and with the Java library, to compare SwapDesk with.
 * It lists all paths, so that strong, span and leaders are read off that list, unlike in SwapDesk.
 */
final class PlainDesk {
    private static final class Arc {
        final int payer;
        final int payee;
        int state = 0;
        final Map<Integer, List<Integer>> locks = new TreeMap<>();

        Arc(int payer, int payee) {
            this.payer = payer;
            this.payee = payee;
        }
    }

    private final int n;
    private final int d;
    private final List<Arc> arcs = new ArrayList<>();
    private final Set<Integer> deviating = new HashSet<>();
    private final Set<List<Integer>> shown = new HashSet<>();
    private final List<Integer> hand = new ArrayList<>();
    private boolean plan = false;
    private Set<Integer> leaders = new HashSet<>();
    private int span;
    private int begin;
    private int time = 0;

    PlainDesk(int parties, int d) {
        int lowest = Math.floorMod(parties, 8);
        this.n = lowest > 4 ? 6 : 2 + lowest;
        this.d = 2 + Math.floorMod(d, 8);
    }

    int n() {
        return n;
    }

    int arcCount() {
        return arcs.size();
    }

    int payee(int arc) {
        return arcs.get(arc).payee;
    }

    List<List<Integer>> shownPaths() {
        List<List<Integer>> all = new ArrayList<>(shown);
        all.sort((a, b) -> a.toString().compareTo(b.toString()));
        return all;
    }

    private boolean party(int p) {
        return 0 <= p && p <= n - 1;
    }

    private boolean thereIs(int a) {
        return 0 <= a && a <= arcs.size() - 1;
    }

    private boolean goes(int from, int to) {
        for (Arc a : arcs) {
            if (a.payer == from && a.payee == to) {
                return true;
            }
        }
        return false;
    }

    private void extend(List<Integer> path, List<List<Integer>> all) {
        all.add(path);
        for (int p = 0; p < n; p++) {
            if (!path.contains(p) && goes(path.get(path.size() - 1), p)) {
                List<Integer> longer = new ArrayList<>(path);
                longer.add(p);
                extend(longer, all);
            }
        }
    }

    private List<List<Integer>> allPaths() {
        List<List<Integer>> all = new ArrayList<>();
        for (int p = 0; p < n; p++) {
            extend(new ArrayList<>(List.of(p)), all);
        }
        return all;
    }

    int arc(int payer, int payee) {
        if (!party(payer) || !party(payee) || payer == payee || goes(payer, payee)) {
            throw new IllegalArgumentException();
        }
        if (plan || arcs.size() == 14) {
            throw new IllegalStateException();
        }
        arcs.add(new Arc(payer, payee));
        return arcs.size() - 1;
    }

    int plan() {
        if (plan) {
            throw new UnsupportedOperationException();
        }
        List<List<Integer>> paths = allPaths();
        Set<List<Integer>> ends = new HashSet<>();
        int longest = 0;
        for (List<Integer> path : paths) {
            ends.add(List.of(path.get(0), path.get(path.size() - 1)));
            longest = Math.max(longest, path.size() - 1);
        }
        if (ends.size() != n * n) {
            throw new IllegalStateException();
        }
        plan = true;
        begin = time;
        span = longest;
        leaders = findLeaders(paths);
        return span;
    }

    /** A path whose last party has an arc to its first is a closed walk; each closed walk holds such a one. */
    private Set<Integer> findLeaders(List<List<Integer>> paths) {
        Set<Integer> best = null;
        for (int size = 0; size <= n; size++) {
            for (int sum = 0; sum < 64 && best == null; sum++) {
                Set<Integer> set = new HashSet<>();
                for (int p = 0; p < 6; p++) {
                    if ((sum & 1 << p) != 0) {
                        set.add(p);
                    }
                }
                if (set.size() == size && hasOneOfEach(set, paths)) {
                    best = set;
                }
            }
        }
        return best;
    }

    private boolean hasOneOfEach(Set<Integer> set, List<List<Integer>> paths) {
        for (List<Integer> path : paths) {
            if (goes(path.get(path.size() - 1), path.get(0))) {
                boolean one = false;
                for (int p : path) {
                    one |= set.contains(p);
                }
                if (!one) {
                    return false;
                }
            }
        }
        return true;
    }

    int leaders() {
        int sum = 0;
        for (int p : leaders) {
            sum += 1 << p;
        }
        return sum;
    }

    boolean conform(int p, boolean does) {
        if (!party(p)) {
            return false;
        }
        return does ? deviating.remove(p) : deviating.add(p);
    }

    int act(int p) {
        if (!party(p)) {
            throw new IllegalArgumentException();
        }
        if (!plan) {
            throw new IllegalStateException();
        }
        if (deviating.contains(p)) {
            throw new UnsupportedOperationException();
        }
        int deeds = 0;
        boolean allThere = true;
        for (Arc a : arcs) {
            allThere &= a.payee != p || a.state == 1 || a.state == 2;
        }
        if ((leaders.contains(p) || allThere) && time < begin + 2 * span * d) {
            for (Arc a : arcs) {
                if (a.payer == p && a.state == 0) {
                    a.state = 1;
                    deeds++;
                }
            }
        }
        if (leaders.contains(p) && allThere) {
            deeds += showAll(p, new ArrayList<>(List.of(p)));
        }
        for (int leader = 0; leader < n; leader++) {
            List<Integer> shortest = null;
            for (Arc a : arcs) {
                List<Integer> path = a.payer == p ? a.locks.get(leader) : null;
                if (path != null && !path.contains(p) && (shortest == null || path.size() < shortest.size())) {
                    shortest = path;
                }
            }
            if (shortest != null) {
                List<Integer> longer = new ArrayList<>(List.of(p));
                longer.addAll(shortest);
                deeds += showAll(p, longer);
            }
        }
        for (Arc a : arcs) {
            if (a.payer == p && a.state == 1 && time >= begin + 2 * span * d) {
                a.state = 3;
                deeds++;
            }
        }
        return deeds;
    }

    private boolean inTime(List<Integer> path) {
        return time < begin + (span + path.size() - 1) * d;
    }

    private int showAll(int p, List<Integer> path) {
        int deeds = 0;
        for (Arc a : arcs) {
            if (a.payee == p && a.state == 1 && !a.locks.containsKey(path.get(path.size() - 1)) && inTime(path)) {
                open(a, path);
                deeds++;
            }
        }
        return deeds;
    }

    private void open(Arc a, List<Integer> path) {
        a.locks.put(path.get(path.size() - 1), path);
        shown.add(path);
        if (a.locks.keySet().equals(leaders)) {
            a.state = 2;
        }
    }

    int run(int times) {
        if (times < 0 || times > 40) {
            throw new IllegalArgumentException();
        }
        int deeds = 0;
        for (int i = 0; i < times; i++) {
            for (int p = 0; p < n && plan; p++) {
                deeds += deviating.contains(p) ? 0 : act(p);
            }
            time++;
        }
        return deeds;
    }

    private Arc at(int a) {
        if (!thereIs(a)) {
            throw new IndexOutOfBoundsException();
        }
        return arcs.get(a);
    }

    void deploy(int a) {
        Arc it = at(a);
        if (!plan || it.state != 0) {
            throw new IllegalStateException();
        }
        it.state = 1;
    }

    int step(int p) {
        if (!party(p) || hand.size() == 6) {
            return -1;
        }
        hand.add(p);
        return hand.size();
    }

    int show(int a) {
        Arc it = at(a);
        boolean path = !hand.isEmpty() && hand.get(0) == it.payee && allPaths().contains(hand);
        if (!path || !leaders.contains(hand.get(hand.size() - 1))) {
            throw new IllegalArgumentException();
        }
        if (!plan || it.state != 1 || it.locks.containsKey(hand.get(hand.size() - 1))) {
            throw new IllegalStateException();
        }
        if (!inTime(hand) || hand.size() > 1 && !shown.contains(hand.subList(1, hand.size()))) {
            throw new UnsupportedOperationException();
        }
        open(it, new ArrayList<>(hand));
        hand.clear();
        return it.locks.size();
    }

    void clear() {
        hand.clear();
    }

    void back(int a) {
        Arc it = at(a);
        if (it.state != 1) {
            throw new IllegalStateException();
        }
        if (time < begin + 2 * span * d) {
            throw new UnsupportedOperationException();
        }
        it.state = 3;
    }

    int pass(int ticks) {
        if (ticks < 0 || ticks > 100) {
            return -1;
        }
        time += ticks;
        return time;
    }

    int state(int a) {
        return at(a).state;
    }

    int open(int a) {
        int sum = 0;
        for (int leader : at(a).locks.keySet()) {
            sum += 1 << leader;
        }
        return sum;
    }

    int key(int a, int leader, int k) {
        List<Integer> path = at(a).locks.get(leader);
        return path == null || k < 0 || k >= path.size() ? -1 : path.get(k);
    }

    int outcome(int p) {
        if (!party(p)) {
            throw new IndexOutOfBoundsException();
        }
        int to = 0;
        int from = 0;
        int paidTo = 0;
        int paidFrom = 0;
        for (Arc a : arcs) {
            to += a.payee == p ? 1 : 0;
            from += a.payer == p ? 1 : 0;
            paidTo += a.payee == p && a.state == 2 ? 1 : 0;
            paidFrom += a.payer == p && a.state == 2 ? 1 : 0;
        }
        if (paidTo == 0 && paidFrom == 0) {
            return 0;
        }
        if (paidTo == to && paidFrom == from) {
            return 1;
        }
        if (paidTo == to) {
            return 2;
        }
        return paidTo > 0 && paidFrom == 0 ? 3 : 4;
    }
}
