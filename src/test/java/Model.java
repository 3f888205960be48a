import java.util.ArrayList;
import java.util.Comparator;
import java.util.HashMap;
import java.util.HashSet;
import java.util.List;
import java.util.Map;
import java.util.Set;

/**
 * The document told a second time, with the whole Java library and without a thought for speed or
 * room, for ModelTest to hold the program against. Calls are taken by name, so that the test can
 * make them at random.
 */
final class Model {
    private record Block(int value, int length) {
        Set<Integer> addresses() {
            Set<Integer> all = new HashSet<>();
            for (int address = 0; address < 256; address++) {
                boolean same = true;
                for (int bit = 0; bit < length; bit++) {
                    same &= (address & 128 >> bit) == (value & 128 >> bit);
                }
                if (same) {
                    all.add(address);
                }
            }
            return all;
        }

        boolean in(Block other) {
            return other.addresses().containsAll(addresses());
        }
    }

    private static final class Holder {
        int parent = -1;
        int key = 0;
        int fresh;
        Set<Integer> list = new HashSet<>();
    }

    private static final class Paper {
        int kind, issuer, whom, extra, last, signature;
        Block block;
        boolean revoked;
    }

    private static final class Route {
        Block block;
        List<Integer> path = new ArrayList<>();
        boolean gone;
    }

    private int today = 0;
    private final List<Holder> holders = new ArrayList<>();
    private final int[] owner = new int[10];
    private final List<Paper> papers = new ArrayList<>();
    private final List<Route> routes = new ArrayList<>();
    private final List<Integer> draft = new ArrayList<>();
    private final Map<List<Integer>, Integer> ties = new HashMap<>();

    Model() {
        Holder first = new Holder();
        first.fresh = 30;
        holders.add(first);
    }

    // ---- wrong inputs

    private static void index(boolean right) {
        if (!right) {
            throw new IndexOutOfBoundsException();
        }
    }

    private static void argument(boolean right) {
        if (!right) {
            throw new IllegalArgumentException();
        }
    }

    private static void state(boolean right) {
        if (!right) {
            throw new IllegalStateException();
        }
    }

    private static boolean within(int number, int least, int most) {
        return least <= number && number <= most;
    }

    private boolean isHolder(int h) {
        return within(h, 0, holders.size() - 1);
    }

    private static boolean isNet(int n) {
        return within(n, 0, 9);
    }

    private static boolean isBlock(int value, int length) {
        return within(value, 0, 255) && within(length, 0, 8) && value % (1 << 8 - length) == 0;
    }

    private boolean isThere(int route) {
        return within(route, 0, routes.size() - 1) && !routes.get(route).gone;
    }

    // ---- the calls

    long call(String name, int... a) {
        switch (name) {
            case "holder": return holder(a[0]);
            case "belong": return belong(a[0], a[1]);
            case "roll": return roll(a[0]);
            case "publish": return publish(a[0], a[1]);
            case "pass": return pass(a[0]);
            case "grant":
                index(isHolder(a[0]) && isHolder(a[1]));
                return add(0, a[0], a[1], a[2], a[3], 0, 0, a[4]);
            case "origin":
                index(isHolder(a[0]) && isNet(a[1]));
                return add(1, a[0], a[1], a[2], a[3], a[4], 8, a[5]);
            case "vouch":
                index(isHolder(a[0]) && isNet(a[1]));
                return add(2, a[0], a[1], 0, 0, a[2], 1023, a[3]);
            case "revoke": return revoke(a[0]);
            case "alter": return alter(a[0], a[1]);
            case "sign": return sign(a[0]);
            case "hop":
                index(isNet(a[0]));
                state(draft.size() < 6);
                draft.add(a[0]);
                return draft.size();
            case "hear": return hear(a[0], a[1]);
            case "withdraw": return withdraw(a[0]);
            case "tie": return tie(a[0], a[1], a[2]);
            case "today": return today;
            case "objects": return papers.size();
            case "routes": return routes.size();
            default: return ask(name, a);
        }
    }

    private long ask(String name, int[] a) {
        switch (name) {
            case "judged":
                index(within(a[0], 0, papers.size() - 1));
                return judged(papers.get(a[0]));
            case "has":
            case "hasByChains":
                index(isHolder(a[0]));
                argument(isBlock(a[1], a[2]));
                return has(a[0], new Block(a[1], a[2])) ? 1 : 0;
            case "state":
                index(isNet(a[0]));
                argument(isBlock(a[1], a[2]));
                return originState(a[0], new Block(a[1], a[2]));
            case "path":
                index(isThere(a[0]));
                return a[1] == 1 ? up(routes.get(a[0]).path) : down(routes.get(a[0]).path);
            case "leak":
                index(isThere(a[0]));
                return leak(routes.get(a[0]).path);
            case "stopped":
                index(isThere(a[0]));
                argument(within(a[1], 0, 1023));
                return stopped(routes.get(a[0]), a[1]);
            case "allowed":
                index(isNet(a[0]) && isNet(a[1]));
                return allPaths().stream().filter(p -> p.get(0) == a[0] && p.get(p.size() - 1) == a[1]).count();
            case "falseAlarms":
                return allPaths().stream().filter(this::lastRefuses).count();
            case "clique":
                return bits(clique());
            case "inferred":
                index(isNet(a[0]) && isNet(a[1]) && within(a[2], 0, 2));
                return a[0] == a[1] ? 0 : relations(a[2]).getOrDefault(List.of(a[0], a[1]), 0);
            case "cone":
                index(isNet(a[0]));
                return bits(cone(a[0]));
            case "coneByPaths":
                index(isNet(a[0]));
                return bits(coneByPaths(a[0]));
            case "addresses":
                index(isNet(a[0]));
                return addresses(a[0]);
            default:
                throw new AssertionError(name);
        }
    }

    // ---- holders

    private int holder(int parent) {
        index(isHolder(parent));
        state(holders.size() < 8);
        Holder h = new Holder();
        h.parent = parent;
        h.fresh = today + 30;
        holders.add(h);
        return holders.size() - 1;
    }

    private int belong(int net, int holder) {
        index(isNet(net) && isHolder(holder));
        int before = owner[net];
        owner[net] = holder;
        return before;
    }

    private int roll(int holder) {
        index(isHolder(holder));
        state(holders.get(holder).key < 100);
        return ++holders.get(holder).key;
    }

    private int publish(int holder, int days) {
        index(isHolder(holder));
        argument(within(days, 0, 100));
        Holder h = holders.get(holder);
        h.fresh = today + days;
        for (int n = 0; n < papers.size(); n++) {
            if (papers.get(n).revoked && papers.get(n).issuer == holder) {
                h.list.add(n);
            }
        }
        return h.list.size();
    }

    private int pass(int days) {
        argument(within(days, 1, 100));
        state(today + days <= 10000);
        today += days;
        return today;
    }

    // ---- objects

    private int add(int kind, int issuer, int whom, int value, int length, int extra, int most, int days) {
        argument(isBlock(value, length) && within(extra, 0, most) && within(days, 0, 1000));
        state(papers.size() < 50);
        Paper p = new Paper();
        p.kind = kind;
        p.issuer = issuer;
        p.whom = whom;
        p.block = new Block(value, length);
        p.extra = extra;
        p.last = today + days;
        p.signature = signatureNow(p);
        papers.add(p);
        return papers.size() - 1;
    }

    private int signatureNow(Paper p) {
        int[] numbers = {p.kind, p.issuer, p.whom, p.block.value, p.block.length, p.extra, p.last};
        long d = 0;
        for (int number : numbers) {
            d = (d * 263 + number + 1) % 65521;
        }
        return (int) ((d * 31 + 7919L * (p.issuer * 101 + holders.get(p.issuer).key * 17)) % 65521);
    }

    private int revoke(int object) {
        index(within(object, 0, papers.size() - 1));
        boolean before = papers.get(object).revoked;
        papers.get(object).revoked = true;
        return before ? 0 : 1;
    }

    private int alter(int object, int extra) {
        index(within(object, 0, papers.size() - 1));
        Paper p = papers.get(object);
        state(p.kind != 0);
        argument(within(extra, 0, p.kind == 1 ? 8 : 1023));
        int before = p.extra;
        p.extra = extra;
        return before;
    }

    private int sign(int object) {
        index(within(object, 0, papers.size() - 1));
        return papers.get(object).signature = signatureNow(papers.get(object));
    }

    private int judged(Paper p) {
        Holder issuer = holders.get(p.issuer);
        if (today > p.last) {
            return 1;
        }
        if (issuer.list.contains(papers.indexOf(p))) {
            return 2;
        }
        if (today > issuer.fresh) {
            return 3;
        }
        if (p.signature != signatureNow(p)) {
            return 4;
        }
        boolean inside = switch (p.kind) {
            case 0 -> holders.get(p.whom).parent == p.issuer && has(p.issuer, p.block);
            case 1 -> has(p.issuer, p.block);
            default -> owner[p.whom] == p.issuer && hasSome(p.issuer);
        };
        return inside ? 0 : 5;
    }

    private boolean has(int holder, Block block) {
        return holder == 0 || papers.stream().anyMatch(p ->
                p.kind == 0 && p.whom == holder && block.in(p.block) && judged(p) == 0);
    }

    private boolean hasSome(int holder) {
        for (int address = 0; address < 256; address++) {
            if (has(holder, new Block(address, 8))) {
                return true;
            }
        }
        return false;
    }

    private int originState(int net, Block block) {
        List<Paper> over = papers.stream().filter(p -> p.kind == 1 && block.in(p.block) && judged(p) == 0).toList();
        if (over.stream().anyMatch(p -> p.whom == net && block.length <= p.extra)) {
            return 1;
        }
        return over.isEmpty() ? 0 : 2;
    }

    // ---- routes

    private int hear(int value, int length) {
        argument(isBlock(value, length));
        state(!draft.isEmpty() && routes.size() < 24);
        Route r = new Route();
        r.block = new Block(value, length);
        for (int net : draft) {
            if (r.path.isEmpty() || r.path.get(r.path.size() - 1) != net) {
                r.path.add(net);
            }
        }
        draft.clear();
        routes.add(r);
        return routes.size() - 1;
    }

    private int withdraw(int route) {
        index(within(route, 0, routes.size() - 1));
        state(!routes.get(route).gone);
        routes.get(route).gone = true;
        return (int) routes.stream().filter(r -> !r.gone).count();
    }

    private int tie(int one, int other, int what) {
        index(isNet(one) && isNet(other));
        argument(one != other && within(what, 0, 3));
        int before = tied(one, other);
        ties.put(List.of(one, other), what);
        ties.put(List.of(other, one), new int[] {0, 2, 1, 3}[what]);
        return before;
    }

    private int tied(int one, int other) {
        return ties.getOrDefault(List.of(one, other), 0);
    }

    private static boolean round(List<Integer> path) {
        return new HashSet<>(path).size() < path.size();
    }

    /** 1 vouches, -1 denies, 0 is silent. */
    private int step(int a, int b) {
        List<Paper> good = papers.stream().filter(p -> p.kind == 2 && p.whom == a && judged(p) == 0).toList();
        if (good.isEmpty()) {
            return 0;
        }
        return good.stream().anyMatch(p -> (p.extra & 1 << b) != 0) ? 1 : -1;
    }

    private int up(List<Integer> path) {
        if (round(path)) {
            return 2;
        }
        int least = 1;
        for (int i = 0; i + 1 < path.size(); i++) {
            least = Math.min(least, step(path.get(i), path.get(i + 1)));
        }
        return new int[] {2, 0, 1}[least + 1];
    }

    private int down(List<Integer> path) {
        if (round(path)) {
            return 2;
        }
        if (reach(path, 0) < path.size()) {
            return 2;
        }
        return reach(path, 1) >= path.size() ? 1 : 0;
    }

    private int reach(List<Integer> path, int least) {
        int first = 0;
        while (first + 1 < path.size() && step(path.get(first), path.get(first + 1)) >= least) {
            first++;
        }
        int last = path.size() - 1;
        while (last > 0 && step(path.get(last), path.get(last - 1)) >= least) {
            last--;
        }
        return first + 1 + path.size() - last;
    }

    private int leak(List<Integer> path) {
        for (int i = 1; i + 1 < path.size(); i++) {
            int ahead = tied(path.get(i - 1), path.get(i));
            int behind = tied(path.get(i + 1), path.get(i));
            if (ahead != 0 && behind != 0 && ahead != 1 && behind != 1) {
                return path.get(i);
            }
        }
        return -1;
    }

    private boolean lastRefuses(List<Integer> path) {
        List<Integer> come = path.subList(0, path.size() - 1);
        boolean fromProvider = tied(come.get(come.size() - 1), path.get(path.size() - 1)) == 2;
        return (fromProvider ? down(come) : up(come)) == 2;
    }

    private int stopped(Route route, int filters) {
        for (int i = 1; i < route.path.size(); i++) {
            int net = route.path.get(i);
            if ((filters & 1 << net) == 0) {
                continue;
            }
            if (originState(route.path.get(0), route.block) == 2 || lastRefuses(route.path.subList(0, i + 1))) {
                return net;
            }
        }
        return -1;
    }

    private boolean isAllowed(List<Integer> path) {
        for (int i = 0; i + 1 < path.size(); i++) {
            if (tied(path.get(i), path.get(i + 1)) == 0) {
                return false;
            }
            if (i > 0 && tied(path.get(i - 1), path.get(i)) != 1 && tied(path.get(i + 1), path.get(i)) != 1) {
                return false;
            }
        }
        return !round(path);
    }

    /** Allowed paths have allowed beginnings, so each is grown from one that is a net shorter. */
    private List<List<Integer>> allPaths() {
        List<List<Integer>> found = new ArrayList<>();
        List<List<Integer>> longest = new ArrayList<>();
        for (int net = 0; net < 10; net++) {
            longest.add(List.of(net));
        }
        for (int size = 2; size <= 5; size++) {
            List<List<Integer>> longer = new ArrayList<>();
            for (List<Integer> path : longest) {
                for (int net = 0; net < 10; net++) {
                    List<Integer> grown = new ArrayList<>(path);
                    grown.add(net);
                    if (isAllowed(grown)) {
                        longer.add(grown);
                    }
                }
            }
            found.addAll(longer);
            longest = longer;
        }
        return found;
    }

    // ---- relations

    private List<List<Integer>> telling() {
        return routes.stream().filter(r -> !r.gone && !round(r.path)).map(r -> r.path).toList();
    }

    private Set<Integer> neighbours(int net) {
        Set<Integer> found = new HashSet<>();
        for (List<Integer> path : telling()) {
            for (int i = 0; i + 1 < path.size(); i++) {
                if (path.get(i) == net) {
                    found.add(path.get(i + 1));
                }
                if (path.get(i + 1) == net) {
                    found.add(path.get(i));
                }
            }
        }
        return found;
    }

    private Set<Integer> clique() {
        List<Integer> order = new ArrayList<>(List.of(0, 1, 2, 3, 4, 5, 6, 7, 8, 9));
        order.sort(Comparator.comparingInt((Integer n) -> -neighbours(n).size()).thenComparingInt(n -> n));
        Set<Integer> taken = new HashSet<>();
        for (int net : order) {
            if (!neighbours(net).isEmpty() && neighbours(net).containsAll(taken)) {
                taken.add(net);
            }
        }
        return taken;
    }

    /** What the first net of a pair is to the second one, for all neighbours. */
    private Map<List<Integer>, Integer> relations(int round) {
        int[] rank = new int[10];
        Map<List<Integer>, Integer> before = round == 0 ? null : relations(round - 1);
        for (int net = 0; net < 10; net++) {
            rank[net] = round == 0 ? neighbours(net).size() : customers(before, net).size();
        }
        Set<Integer> clique = clique();
        Map<List<Integer>, Integer> votes = new HashMap<>();
        for (List<Integer> path : telling()) {
            int top = top(path, clique, rank);
            for (int i = 0; i + 1 < path.size(); i++) {
                List<Integer> pair = List.of(path.get(i), path.get(i + 1));
                List<Integer> vote = i + 1 <= top ? pair : List.of(pair.get(1), pair.get(0));
                if (!clique.containsAll(pair)) {
                    votes.merge(vote, 1, Integer::sum);
                }
            }
        }
        Map<List<Integer>, Integer> found = new HashMap<>();
        for (int one = 0; one < 10; one++) {
            for (int other : neighbours(one)) {
                int to = votes.getOrDefault(List.of(one, other), 0);
                int back = votes.getOrDefault(List.of(other, one), 0);
                boolean peers = clique.contains(one) && clique.contains(other);
                found.put(List.of(one, other), peers ? 3 : to > 2 * back ? 1 : back > 2 * to ? 2 : 3);
            }
        }
        return found;
    }

    private static int top(List<Integer> path, Set<Integer> clique, int[] rank) {
        for (int i = 0; i < path.size(); i++) {
            if (clique.contains(path.get(i))) {
                return i;
            }
        }
        int best = path.stream().mapToInt(n -> rank[n]).max().orElseThrow();
        for (int i = 0; ; i++) {
            if (rank[path.get(i)] == best) {
                return i;
            }
        }
    }

    private static Set<Integer> customers(Map<List<Integer>, Integer> relations, int net) {
        Set<Integer> found = new HashSet<>();
        for (int other = 0; other < 10; other++) {
            if (relations.getOrDefault(List.of(other, net), 0) == 1) {
                found.add(other);
            }
        }
        return found;
    }

    private Set<Integer> cone(int net) {
        Map<List<Integer>, Integer> relations = relations(2);
        Set<Integer> found = new HashSet<>();
        List<Integer> open = new ArrayList<>(List.of(net));
        while (!open.isEmpty()) {
            int next = open.remove(open.size() - 1);
            if (found.add(next)) {
                open.addAll(customers(relations, next));
            }
        }
        return found;
    }

    private Set<Integer> coneByPaths(int net) {
        Map<List<Integer>, Integer> relations = relations(2);
        Set<Integer> found = new HashSet<>(List.of(net));
        for (List<Integer> path : telling()) {
            int at = path.indexOf(net);
            while (at > 0 && relations.get(List.of(path.get(at - 1), path.get(at))) == 1) {
                at--;
                found.add(path.get(at));
            }
        }
        return found;
    }

    private int addresses(int net) {
        Set<Integer> found = new HashSet<>();
        Set<Integer> cone = cone(net);
        for (Route r : routes) {
            if (!r.gone && cone.contains(r.path.get(0))) {
                found.addAll(r.block.addresses());
            }
        }
        return found.size();
    }

    private static int bits(Set<Integer> set) {
        return set.stream().mapToInt(n -> 1 << n).sum();
    }
}
