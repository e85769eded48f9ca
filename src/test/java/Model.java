import java.util.ArrayDeque;
import java.util.ArrayList;
import java.util.Arrays;
import java.util.Comparator;
import java.util.Deque;
import java.util.List;
import java.util.NoSuchElementException;
import java.util.Set;
import java.util.TreeSet;
import java.util.regex.Matcher;
import java.util.regex.Pattern;

/**
 * The document once more, written as directly as can be and with other means than the class, so
 * that ModelTest can hold the answers of both against each other.
 */
public final class Model {
    static final class Node {
        String name;
        int position;
        int zone;
        int risk;
        int room;
        int state;
        int since;
    }

    static final class Tenant {
        String name;
        int income;
        int most;
        int purse;
        int bought;
        long paid;
    }

    static final class Group {
        String name;
        int tenant;
        int key;
        int data;
        int parity;
        int size;
        int value;
        int progress;
        List<Integer> on = new ArrayList<>();

        int cost() {
            return (data + 1) * size;
        }
    }

    static final class World {
        List<Node> nodes = new ArrayList<>();
        List<Tenant> tenants = new ArrayList<>();
        List<Group> groups = new ArrayList<>();
        List<int[]> history = new ArrayList<>();
        int bandwidth = 1;
        int carry;
        int reserve;
        int rule;
        int carried;
        int next;

        World copy() {
            World w = new World();
            for (Node n : nodes) {
                Node c = new Node();
                c.name = n.name;
                c.position = n.position;
                c.zone = n.zone;
                c.risk = n.risk;
                c.room = n.room;
                c.state = n.state;
                c.since = n.since;
                w.nodes.add(c);
            }
            for (Tenant t : tenants) {
                Tenant c = new Tenant();
                c.name = t.name;
                c.income = t.income;
                c.most = t.most;
                c.purse = t.purse;
                c.bought = t.bought;
                c.paid = t.paid;
                w.tenants.add(c);
            }
            for (Group g : groups) {
                Group c = new Group();
                c.name = g.name;
                c.tenant = g.tenant;
                c.key = g.key;
                c.data = g.data;
                c.parity = g.parity;
                c.size = g.size;
                c.value = g.value;
                c.progress = g.progress;
                c.on = new ArrayList<>(g.on);
                w.groups.add(c);
            }
            w.history = new ArrayList<>(history);
            w.bandwidth = bandwidth;
            w.carry = carry;
            w.reserve = reserve;
            w.rule = rule;
            w.carried = carried;
            w.next = next;
            return w;
        }

        int shardsOn(int node) {
            int count = 0;
            for (Group g : groups) {
                for (int n : g.on) {
                    count += n == node ? 1 : 0;
                }
            }
            return count;
        }

        boolean isMissing(Group g, int shard) {
            return nodes.get(g.on.get(shard)).state == 1;
        }

        List<Integer> available(Group g) {
            List<Integer> list = new ArrayList<>();
            for (int s = 0; s < g.on.size(); s++) {
                if (!isMissing(g, s)) {
                    list.add(s);
                }
            }
            return list;
        }

        boolean isDamaged(Group g) {
            return available(g).size() < g.on.size();
        }

        boolean isLost(Group g) {
            return available(g).size() < g.data;
        }

        int set(java.util.function.Predicate<Group> test) {
            int set = 0;
            for (int i = 0; i < groups.size(); i++) {
                set += test.test(groups.get(i)) ? 1 << i : 0;
            }
            return set;
        }

        boolean takes(Group g, int node) {
            return nodes.get(node).state == 0 && shardsOn(node) < nodes.get(node).room && !g.on.contains(node);
        }

        /** All nodes, clockwise from a position on. */
        List<Integer> clockwiseFrom(int position) {
            List<Integer> order = new ArrayList<>();
            for (int i = 0; i < nodes.size(); i++) {
                order.add(i);
            }
            order.sort(Comparator.comparingInt(i -> nodes.get(i).position));
            List<Integer> turned = new ArrayList<>();
            order.stream().filter(i -> nodes.get(i).position >= position).forEach(turned::add);
            order.stream().filter(i -> nodes.get(i).position < position).forEach(turned::add);
            return turned;
        }

        int place(Group g, int shard, int position) {
            Set<Integer> zones = new TreeSet<>();
            for (int s = 0; s < g.on.size(); s++) {
                if (s != shard) {
                    zones.add(nodes.get(g.on.get(s)).zone);
                }
            }
            for (int node : clockwiseFrom(position)) {
                if (takes(g, node) && !zones.contains(nodes.get(node).zone)) {
                    return node;
                }
            }
            for (int node : clockwiseFrom(position)) {
                if (takes(g, node)) {
                    return node;
                }
            }
            return -1;
        }

        int target(Group g) {
            for (int s = 0; s < g.on.size(); s++) {
                if (isMissing(g, s)) {
                    return place(g, s, nodes.get(g.on.get(s)).position + 1);
                }
            }
            return -1;
        }

        long loss(Group g) {
            if (isLost(g)) {
                return 1000000000;
            }
            List<Integer> shards = available(g);
            long[] p = new long[shards.size() + 1];
            p[0] = 1000000000;
            for (int s : shards) {
                long q = nodes.get(g.on.get(s)).risk;
                long[] old = p.clone();
                for (int j = shards.size(); j >= 0; j--) {
                    p[j] = (old[j] * (1000 - q) + (j == 0 ? 0 : old[j - 1]) * q) / 1000;
                }
            }
            long sum = 0;
            for (int j = 0; j <= shards.size(); j++) {
                sum += j > shards.size() - g.data ? p[j] : 0;
            }
            return sum;
        }

        World without(int node) {
            World w = copy();
            w.nodes.get(node).state = 1;
            return w;
        }

        long allLosses() {
            return groups.stream().mapToLong(g -> g.value * loss(g)).sum();
        }

        int need(Group g) {
            return Math.max(0, (g.on.size() - available(g).size()) * g.cost() - g.progress);
        }

        int offer(Group g) {
            return (int) Math.min(9999, g.value * loss(g) / 1000000);
        }

        boolean bids(Group g) {
            return isDamaged(g) && !isLost(g) && need(g) > 0 && target(g) >= 0 && offer(g) >= 1 && offer(g) >= reserve;
        }

        List<Integer> order() {
            List<Integer> order = new ArrayList<>();
            for (int i = 0; i < groups.size(); i++) {
                if (bids(groups.get(i))) {
                    order.add(i);
                }
            }
            order.sort(Comparator.comparingInt(i -> -offer(groups.get(i))));
            return order;
        }
    }

    static final class Result {
        List<Integer> order;
        int[] units;
        int[] prices;
        int clearing;
        int sold;
        int repaired;
        long paid;
    }

    private World world = new World();
    private final Deque<World> undo = new ArrayDeque<>();
    private String input = "";
    private String output = "";
    private int code;
    private int at = -1;

    private static Result runRound(World w) {
        Result r = new Result();
        for (Tenant t : w.tenants) {
            t.purse = Math.max(t.purse, Math.min(t.most, t.purse + t.income));
        }
        int left = w.bandwidth + w.carried;
        r.order = w.order();
        r.units = new int[w.groups.size()];
        r.prices = new int[w.groups.size()];
        r.clearing = w.reserve;
        boolean found = false;
        long[] pledged = new long[w.tenants.size()];
        int[] offers = new int[w.groups.size()];
        for (int g : r.order) {
            Group group = w.groups.get(g);
            offers[g] = w.offer(group);
            long payable = (w.tenants.get(group.tenant).purse - pledged[group.tenant]) / offers[g];
            r.units[g] = (int) Math.min(Math.min(w.need(group), left), payable);
            pledged[group.tenant] += (long) offers[g] * r.units[g];
            left -= r.units[g];
            r.sold += r.units[g];
            boolean payableOneMore = pledged[group.tenant] + offers[g] <= w.tenants.get(group.tenant).purse;
            if (!found && r.units[g] < w.need(group) && payableOneMore) {
                found = true;
                r.clearing = offers[g];
            }
        }
        for (int i = 0; i < r.order.size(); i++) {
            int g = r.order.get(i);
            int second = i + 1 < r.order.size() ? offers[r.order.get(i + 1)] : w.reserve;
            int price = w.rule == 0 ? offers[g] : w.rule == 1 ? second : r.clearing;
            r.prices[g] = r.units[g] > 0 ? price : 0;
            Tenant t = w.tenants.get(w.groups.get(g).tenant);
            t.purse -= r.units[g] * r.prices[g];
            t.bought += r.units[g];
            t.paid += (long) r.units[g] * r.prices[g];
            r.paid += (long) r.units[g] * r.prices[g];
        }
        for (int g : r.order) {
            repair(w, w.groups.get(g), r.units[g], r);
        }
        w.carried = Math.min(left, w.carry);
        w.history.add(new int[] {w.next, r.sold, r.clearing, r.order.size(), r.repaired});
        if (w.history.size() > 40) {
            w.history.remove(0);
        }
        w.next++;
        return r;
    }

    private static void repair(World w, Group g, int units, Result r) {
        g.progress += units;
        while (g.progress >= g.cost() && w.isDamaged(g)) {
            int shard = 0;
            while (!w.isMissing(g, shard)) {
                shard++;
            }
            int node = w.target(g);
            if (node < 0) {
                return;
            }
            g.on.set(shard, node);
            g.progress -= g.cost();
            r.repaired++;
        }
    }

    private static final class Wrong extends RuntimeException {
        private static final long serialVersionUID = 1;
        final int code;
        final int at;

        Wrong(int code, int at) {
            this.code = code;
            this.at = at;
        }
    }

    private static final String[] STATEMENTS = {
        "ring bandwidth N carry N reserve N price RULE ;",
        "node NAME at N zone N risk N room N ;",
        "tenant NAME income N most N ;",
        "group NAME of TENANT key N data N parity N size N value N ;"};
    private static final int[][][] RANGES = {
        {{1, 99999}, {0, 99999}, {0, 9999}},
        {{0, 9999}, {0, 9}, {0, 999}, {1, 50}},
        {{0, 999999}, {0, 999999}},
        {{0, 9999}, {1, 6}, {1, 4}, {1, 100}, {1, 9999}}};
    private static final List<String> RULES = Arrays.asList("first", "second", "uniform");
    private static final Set<String> KEYWORDS = new TreeSet<>(RULES);

    static {
        for (String statement : STATEMENTS) {
            for (String word : statement.split(" ")) {
                if (word.matches("[a-z]+")) {
                    KEYWORDS.add(word);
                }
            }
        }
    }

    private static World parse(String text) {
        World w = new World();
        List<String> tokens = new ArrayList<>();
        List<Integer> places = new ArrayList<>();
        Matcher matcher = Pattern.compile("[a-z]+|[0-9]+|[^ \n]").matcher(text);
        while (matcher.find()) {
            tokens.add(matcher.group());
            places.add(matcher.start());
        }
        tokens.add("");
        places.add(text.length());
        int next = 0;
        boolean first = true;
        while (first || !tokens.get(next).isEmpty()) {
            int which = first ? 0 : Arrays.asList("node", "tenant", "group").indexOf(tokens.get(next)) + 1;
            if (which == 0 && !first) {
                throw new Wrong(1, places.get(next));
            }
            next = statement(w, which, tokens, places, next);
            first = false;
        }
        return w;
    }

    private static int statement(World w, int which, List<String> tokens, List<Integer> places, int from) {
        int next = from;
        String name = "";
        int other = 0;
        List<Integer> numbers = new ArrayList<>();
        for (String slot : STATEMENTS[which].split(" ")) {
            String token = tokens.get(next);
            int fault = fault(w, which, slot, token, next == from, numbers);
            if (fault > 0) {
                throw new Wrong(fault, places.get(next));
            }
            if (slot.equals("N")) {
                numbers.add(Integer.parseInt(token));
            } else if (slot.equals("NAME")) {
                name = token;
            } else if (slot.equals("RULE")) {
                other = RULES.indexOf(token);
            } else if (slot.equals("TENANT")) {
                other = names(w, 1).indexOf(token);
            }
            next++;
        }
        if (!accept(w, which, name, other, numbers)) {
            throw new Wrong(5, places.get(next - 1));
        }
        return next;
    }

    private static int fault(World w, int which, String slot, String token, boolean isFirst, List<Integer> numbers) {
        boolean isName = token.matches("[a-z]{1,6}") && !KEYWORDS.contains(token);
        switch (slot) {
            case "N":
                if (!token.matches("[0-9]+")) {
                    return 1;
                }
                int[] range = RANGES[which][numbers.size()];
                java.math.BigInteger number = new java.math.BigInteger(token);
                if (number.compareTo(java.math.BigInteger.valueOf(range[0])) < 0
                        || number.compareTo(java.math.BigInteger.valueOf(range[1])) > 0) {
                    return 2;
                }
                boolean taken = w.nodes.stream().anyMatch(n -> n.position == number.intValue());
                return which == 1 && numbers.isEmpty() && taken ? 3 : 0;
            case "NAME":
                return !isName ? 1 : names(w, which - 1).contains(token) ? 3 : 0;
            case "TENANT":
                return !isName ? 1 : !names(w, 1).contains(token) ? 3 : 0;
            case "RULE":
                return RULES.contains(token) ? 0 : 1;
            default:
                if (!slot.equals(token)) {
                    return 1;
                }
                return isFirst && which > 0 && names(w, which - 1).size() == new int[] {16, 6, 10}[which - 1] ? 4 : 0;
        }
    }

    private static List<String> names(World w, int kind) {
        List<String> names = new ArrayList<>();
        w.nodes.stream().filter(n -> kind == 0).forEach(n -> names.add(n.name));
        w.tenants.stream().filter(t -> kind == 1).forEach(t -> names.add(t.name));
        w.groups.stream().filter(g -> kind == 2).forEach(g -> names.add(g.name));
        return names;
    }

    private static boolean accept(World w, int which, String name, int other, List<Integer> n) {
        if (which == 0) {
            w.bandwidth = n.get(0);
            w.carry = n.get(1);
            w.reserve = n.get(2);
            w.rule = other;
        } else if (which == 1) {
            Node node = new Node();
            node.name = name;
            node.position = n.get(0);
            node.zone = n.get(1);
            node.risk = n.get(2);
            node.room = n.get(3);
            w.nodes.add(node);
        } else if (which == 2) {
            Tenant tenant = new Tenant();
            tenant.name = name;
            tenant.income = n.get(0);
            tenant.most = n.get(1);
            w.tenants.add(tenant);
        } else {
            Group group = new Group();
            group.name = name;
            group.tenant = other;
            group.key = n.get(0);
            group.data = n.get(1);
            group.parity = n.get(2);
            group.size = n.get(3);
            group.value = n.get(4);
            w.groups.add(group);
            int position = group.key;
            for (int shard = 0; shard < group.data + group.parity; shard++) {
                int node = w.place(group, shard, position);
                if (node < 0) {
                    return false;
                }
                group.on.add(node);
                position = w.nodes.get(node).position + 1;
            }
        }
        return true;
    }

    private void keep() {
        undo.addLast(world.copy());
        if (undo.size() > 8) {
            undo.removeFirst();
        }
    }

    private static void index(boolean good) {
        if (!good) {
            throw new IndexOutOfBoundsException();
        }
    }

    private static void argument(boolean good) {
        if (!good) {
            throw new IllegalArgumentException();
        }
    }

    private static void state(boolean good) {
        if (!good) {
            throw new IllegalStateException();
        }
    }

    private Node nodeAt(int node) {
        index(node >= 0 && node < world.nodes.size());
        return world.nodes.get(node);
    }

    private Tenant tenantAt(int tenant) {
        index(tenant >= 0 && tenant < world.tenants.size());
        return world.tenants.get(tenant);
    }

    private Group groupAt(int group) {
        index(group >= 0 && group < world.groups.size());
        return world.groups.get(group);
    }

    public int append(int a, int b, int c, int d, int e) {
        state(input.length() + 20 <= 1400);
        StringBuilder text = new StringBuilder(input);
        for (int four : new int[] {a, b, c, d, e}) {
            for (byte each : java.nio.ByteBuffer.allocate(4).putInt(four).array()) {
                text.append((char) (each & 255));
            }
        }
        input = text.toString();
        return input.length();
    }

    public void truncate(int length) {
        argument(length >= 0 && length <= input.length());
        input = input.substring(0, length);
    }

    public int load() {
        String text = input;
        input = "";
        try {
            World loaded = parse(text);
            keep();
            world = loaded;
            code = 0;
            at = -1;
            return world.groups.size();
        } catch (Wrong wrong) {
            code = wrong.code;
            at = wrong.at;
            return -4;
        }
    }

    public int errorCode() {
        return code;
    }

    public int errorPosition() {
        return at;
    }

    public int find(int kind) {
        argument(kind >= 0 && kind <= 2);
        int found = names(world, kind).indexOf(input);
        input = "";
        return found;
    }

    public int count(int kind) {
        argument(kind >= 0 && kind <= 2);
        return names(world, kind).size();
    }

    public int node(int node, int what) {
        Node n = nodeAt(node);
        argument(what >= 0 && what <= 6);
        return new int[] {n.position, n.zone, n.risk, n.room, world.shardsOn(node), n.state, n.since}[what];
    }

    public int groupsOn(int node) {
        nodeAt(node);
        return world.set(g -> g.on.contains(node));
    }

    public int nodeFrom(int position) {
        argument(position >= 0 && position <= 9999);
        return world.nodes.isEmpty() ? -1 : world.clockwiseFrom(position).get(0);
    }

    public int clockwise(int node, int other) {
        int way = nodeAt(other).position - nodeAt(node).position;
        return way < 0 ? way + 10000 : way;
    }

    public int zoneShards(int zone) {
        argument(zone >= 0 && zone <= 9);
        int sum = 0;
        for (Group g : world.groups) {
            sum += (int) g.on.stream().filter(n -> world.nodes.get(n).zone == zone).count();
        }
        return sum;
    }

    public int tenant(int tenant, int what) {
        Tenant t = tenantAt(tenant);
        argument(what >= 0 && what <= 4);
        return new int[] {t.income, t.most, t.purse, t.bought, (int) Math.min(t.paid, 2000000000)}[what];
    }

    public double share(int tenant) {
        Tenant t = tenantAt(tenant);
        int all = world.tenants.stream().mapToInt(each -> each.bought).sum();
        return all == 0 ? 0.0 : t.bought / (double) all;
    }

    public int group(int group, int what) {
        Group g = groupAt(group);
        argument(what >= 0 && what <= 8);
        return new int[] {g.tenant, g.key, g.data, g.parity, g.size, g.value, g.progress, g.cost(), world.need(g)}[what];
    }

    public int nodeOf(int group, int shard) {
        Group g = groupAt(group);
        index(shard >= 0 && shard < g.on.size());
        return g.on.get(shard);
    }

    public int missing(int group) {
        Group g = groupAt(group);
        int set = 0;
        for (int s = 0; s < g.on.size(); s++) {
            set += world.isMissing(g, s) ? 1 << s : 0;
        }
        return set;
    }

    public int zonesOf(int group) {
        Group g = groupAt(group);
        return (int) world.available(g).stream().map(s -> world.nodes.get(g.on.get(s)).zone).distinct().count();
    }

    public int damaged() {
        return world.set(world::isDamaged);
    }

    public int lost() {
        return world.set(world::isLost);
    }

    public int loss(int group) {
        return (int) world.loss(groupAt(group));
    }

    public int lossWithout(int group, int node) {
        groupAt(group);
        nodeAt(node);
        World w = world.without(node);
        return (int) w.loss(w.groups.get(group));
    }

    public double expectedLoss() {
        double sum = 0.0;
        for (Group g : world.groups) {
            sum += g.value * world.loss(g) / 1000000000.0;
        }
        return sum;
    }

    public int worstNode() {
        int worst = -1;
        long most = Long.MIN_VALUE;
        for (int node = 0; node < world.nodes.size(); node++) {
            if (world.nodes.get(node).state != 1) {
                long increase = world.without(node).allLosses() - world.allLosses();
                if (increase > most) {
                    most = increase;
                    worst = node;
                }
            }
        }
        return worst;
    }

    public int offer(int group) {
        return world.offer(groupAt(group));
    }

    public boolean bids(int group) {
        return world.bids(groupAt(group));
    }

    public int target(int group) {
        return world.target(groupAt(group));
    }

    public int bidder(int place) {
        argument(place >= 0);
        List<Integer> order = world.order();
        return place < order.size() ? order.get(place) : -1;
    }

    public int outcome(int group, int what) {
        groupAt(group);
        argument(what == 0 || what == 1);
        Result r = runRound(world.copy());
        return what == 0 ? r.units[group] : r.prices[group];
    }

    public int clearingPrice() {
        return runRound(world.copy()).clearing;
    }

    public int bandwidth() {
        return world.bandwidth + world.carried;
    }

    public int nextRound() {
        return world.next;
    }

    public int fail(int node) {
        Node n = nodeAt(node);
        state(n.state != 1);
        keep();
        int before = lost();
        n.state = 1;
        n.since = world.next;
        return lost() & ~before;
    }

    public int recover(int node) {
        Node n = nodeAt(node);
        state(n.state == 1);
        keep();
        int before = lost();
        n.state = 0;
        n.since = world.next;
        return before & ~lost();
    }

    public int drain(int node, boolean draining) {
        Node n = nodeAt(node);
        state(n.state != 1 && (n.state == 2) != draining);
        keep();
        n.state = draining ? 2 : 0;
        n.since = world.next;
        return world.shardsOn(node);
    }

    public int round() {
        keep();
        return runRound(world).sold;
    }

    public int rounds(int count) {
        argument(count >= 1 && count <= 100);
        keep();
        int repaired = 0;
        for (int i = 0; i < count; i++) {
            repaired += runRound(world).repaired;
        }
        return repaired;
    }

    public int setRisk(int node, int risk) {
        Node n = nodeAt(node);
        argument(risk >= 0 && risk <= 999);
        keep();
        int previous = n.risk;
        n.risk = risk;
        return previous;
    }

    public int setBandwidth(int units) {
        argument(units >= 1 && units <= 99999);
        keep();
        int previous = world.bandwidth;
        world.bandwidth = units;
        return previous;
    }

    public int setRule(int rule) {
        argument(rule >= 0 && rule <= 2);
        keep();
        int previous = world.rule;
        world.rule = rule;
        return previous;
    }

    public int grant(int tenant, int credits) {
        Tenant t = tenantAt(tenant);
        argument(credits >= 1 && credits <= 999999);
        state(t.purse + credits <= 9999999);
        keep();
        t.purse += credits;
        return t.purse;
    }

    public int move(int group, int shard, int node) {
        Group g = groupAt(group);
        index(shard >= 0 && shard < g.on.size());
        nodeAt(node);
        state(!world.isMissing(g, shard) && world.takes(g, node));
        keep();
        return g.on.set(shard, node);
    }

    public int lostBy(int nodes) {
        argument(nodes >= 0 && nodes < 1 << world.nodes.size());
        World w = world.copy();
        for (int node = 0; node < w.nodes.size(); node++) {
            if ((nodes & 1 << node) != 0) {
                w.nodes.get(node).state = 1;
            }
        }
        return w.set(w::isLost);
    }

    /** The best mask among all masks of nodes that are not down, or -1. */
    private int fewest() {
        int down = 0;
        for (int node = 0; node < world.nodes.size(); node++) {
            down |= world.nodes.get(node).state == 1 ? 1 << node : 0;
        }
        int best = -1;
        for (int mask = 0; mask < 1 << world.nodes.size(); mask++) {
            boolean fewer = best == -1 || Integer.bitCount(mask) < Integer.bitCount(best);
            if ((mask & down) == 0 && fewer && makesLost(mask)) {
                best = mask;
            }
        }
        return best;
    }

    private boolean makesLost(int mask) {
        for (Group g : world.groups) {
            List<Integer> rest = world.available(g);
            rest.removeIf(s -> (mask >> g.on.get(s) & 1) != 0);
            if (!world.isLost(g) && rest.size() < g.data) {
                return true;
            }
        }
        return false;
    }

    public int fewestFailures() {
        int best = fewest();
        return best == -1 ? -1 : Integer.bitCount(best);
    }

    public int fewestFailuresSet() {
        return fewest();
    }

    public int roundsToRepair(int group) {
        groupAt(group);
        World w = world.copy();
        for (int n = 0; n <= 300; n++) {
            if (!w.isDamaged(w.groups.get(group))) {
                return n;
            }
            runRound(w);
        }
        return -1;
    }

    public int roundsToCalm() {
        World w = world.copy();
        for (int n = 0; n <= 300; n++) {
            if (w.groups.stream().noneMatch(w::isDamaged)) {
                return n;
            }
            runRound(w);
        }
        return -1;
    }

    public int soldIn(int rounds) {
        argument(rounds >= 0 && rounds <= 300);
        World w = world.copy();
        int sold = 0;
        for (int n = 0; n < rounds; n++) {
            sold += runRound(w).sold;
        }
        return sold;
    }

    public int purseAfter(int tenant, int rounds) {
        tenantAt(tenant);
        argument(rounds >= 0 && rounds <= 300);
        World w = world.copy();
        for (int n = 0; n < rounds; n++) {
            runRound(w);
        }
        return w.tenants.get(tenant).purse;
    }

    public int paidUntilCalm() {
        int rounds = roundsToCalm();
        World w = world.copy();
        long paid = 0;
        for (int n = 0; n < rounds; n++) {
            paid += runRound(w).paid;
        }
        return rounds < 0 ? -1 : (int) Math.min(2000000000L, paid);
    }

    public int historySize() {
        return world.history.size();
    }

    public int history(int index, int what) {
        index(index >= 0 && index < world.history.size());
        argument(what >= 0 && what <= 4);
        return world.history.get(index)[what];
    }

    private int[] clearingPrices() {
        if (world.history.isEmpty()) {
            throw new NoSuchElementException();
        }
        return world.history.stream().mapToInt(r -> r[2]).toArray();
    }

    public double meanPrice(int rounds) {
        argument(rounds >= 1 && rounds <= 40);
        int[] prices = clearingPrices();
        int skipped = Math.max(0, prices.length - rounds);
        return Arrays.stream(prices).skip(skipped).sum() / (double) (prices.length - skipped);
    }

    public int dearestRound() {
        int[] prices = clearingPrices();
        int highest = Arrays.stream(prices).max().getAsInt();
        int index = 0;
        while (prices[index] != highest) {
            index++;
        }
        return index;
    }

    public int longestRise() {
        int longest = 0;
        List<int[]> rounds = world.history;
        for (int from = 0; from < rounds.size(); from++) {
            int to = from + 1;
            while (to < rounds.size() && rounds.get(to)[2] > rounds.get(to - 1)[2]) {
                to++;
            }
            longest = Math.max(longest, to - from);
        }
        return longest;
    }

    public int undo() {
        state(!undo.isEmpty());
        world = undo.removeLast();
        return undo.size();
    }

    public int undoCount() {
        return undo.size();
    }

    public int writeBids() {
        StringBuilder text = new StringBuilder();
        for (int g : world.order()) {
            Group group = world.groups.get(g);
            text.append(group.name).append(':').append(world.offer(group)).append('/').append(world.need(group)).append('\n');
        }
        output = text.toString();
        return output.length();
    }

    public int outputByte(int index) {
        index(index >= 0 && index < output.length());
        return output.charAt(index);
    }
}
