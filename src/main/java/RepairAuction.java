import java.util.NoSuchElementException;

/**
 * A ring of storage nodes that keeps erasure-coded groups of shards and sells its repair
 * bandwidth in rounds. DOC.md says, promise by promise, what each call answers.
 */
public final class RepairAuction {
    public static final int NONE = -1;
    public static final int PARSE_ERROR = -4;

    private static final int MAX_INPUT = 1400;
    private static final int MAX_OUTPUT = 200;
    private static final int BYTES_OF_APPEND = 20;
    private static final int MAX_UNDO = 8;
    private static final int MAX_NODES = 16;
    private static final int MAX_TENANTS = 6;
    private static final int MAX_GROUPS = 10;
    private static final int MAX_SHARDS = 10;
    private static final int MAX_PAST = 40;
    private static final int MAX_NAME = 6;

    private static final int POSITIONS = 10000;
    private static final int ZONES = 10;
    private static final int RISKS = 1000;
    private static final int MAX_BANDWIDTH = 99999;
    private static final int MAX_RESERVE = 9999;
    private static final int MAX_CREDITS = 999999;
    private static final int MAX_PURSE = 9999999;
    private static final int MAX_PAID = 2000000000;
    private static final int MAX_OFFER = 9999;
    private static final int CERTAIN = 1000000000;
    private static final int MAX_ROUNDS = 100;
    private static final int MAX_FORECAST = 300;

    private static final int KIND_NODE = 0;
    private static final int KIND_TENANT = 1;
    private static final int KIND_GROUP = 2;

    private static final int RULE_FIRST = 0;
    private static final int RULE_SECOND = 1;
    private static final int RULE_UNIFORM = 2;

    private static final int UP = 0;
    private static final int DOWN = 1;
    private static final int DRAINING = 2;

    // The columns up to the last one that a call's "what" can name have its numbers;
    // the name, where there is one, is in the last column.
    private static final int NODE_POSITION = 0;
    private static final int NODE_ZONE = 1;
    private static final int NODE_RISK = 2;
    private static final int NODE_ROOM = 3;
    private static final int NODE_SHARDS = 4;
    private static final int NODE_STATE = 5;
    private static final int NODE_SINCE = 6;
    private static final int NODE_COLUMNS = 8;

    private static final int TENANT_INCOME = 0;
    private static final int TENANT_MOST = 1;
    private static final int TENANT_PURSE = 2;
    private static final int TENANT_BOUGHT = 3;
    private static final int TENANT_PAID = 4;
    private static final int TENANT_COLUMNS = 6;

    private static final int GROUP_TENANT = 0;
    private static final int GROUP_KEY = 1;
    private static final int GROUP_DATA = 2;
    private static final int GROUP_PARITY = 3;
    private static final int GROUP_SIZE = 4;
    private static final int GROUP_VALUE = 5;
    private static final int GROUP_PROGRESS = 6;
    private static final int GROUP_COST = 7;
    private static final int GROUP_NEED = 8;
    private static final int GROUP_SHARDS = 9;
    private static final int FIRST_SHARD = 10;
    private static final int GROUP_COLUMNS = FIRST_SHARD + MAX_SHARDS + 1;

    private static final int PAST_ROUND = 0;
    private static final int PAST_SOLD = 1;
    private static final int PAST_PRICE = 2;
    private static final int PAST_BIDS = 3;
    private static final int PAST_REPAIRED = 4;
    private static final int PAST_COLUMNS = 5;

    private static final int BID_GROUP = 0;
    private static final int BID_OFFER = 1;
    private static final int BID_UNITS = 2;
    private static final int BID_PRICE = 3;
    private static final int BID_COLUMNS = 4;

    private static final Keyword[] KEYWORDS = Keyword.values();

    private final Bytes input = new Bytes(MAX_INPUT);
    private final Bytes output = new Bytes(MAX_OUTPUT);
    private final Parser parser = new Parser(input);
    private final Ring ring = new Ring();
    private final Auction auction = new Auction();
    private final Forecast forecast = new Forecast();
    private final Undo saved = new Undo();

    public RepairAuction() {
    }

    public int append(int a, int b, int c, int d, int e) throws IllegalStateException {
        if (input.size + BYTES_OF_APPEND > MAX_INPUT) {
            throw new IllegalStateException("the input buffer would hold more than 1400 bytes");
        }
        input.addFour(a);
        input.addFour(b);
        input.addFour(c);
        input.addFour(d);
        input.addFour(e);
        return input.size;
    }

    public void truncate(int length) throws IllegalArgumentException {
        needArgument(length >= 0 && length <= input.size);
        input.cut(length);
    }

    public int load() {
        boolean good = parser.parse();
        input.cut(0);
        if (!good) {
            return PARSE_ERROR;
        }
        saved.keep(ring);
        ring.copyFrom(parser.ring);
        return ring.groups.size;
    }

    public int errorCode() {
        return parser.code;
    }

    public int errorPosition() {
        return parser.code == 0 ? NONE : parser.position;
    }

    public int find(int kind) throws IllegalArgumentException {
        needArgument(isKind(kind));
        int name = input.nameBetween(0, input.size);
        input.cut(0);
        return name == 0 ? NONE : ring.tableOf(kind).named(name);
    }

    public int count(int kind) throws IllegalArgumentException {
        needArgument(isKind(kind));
        return ring.tableOf(kind).size;
    }

    public int node(int node, int what) throws IndexOutOfBoundsException, IllegalArgumentException {
        needNode(node);
        needArgument(what >= 0 && what <= NODE_SINCE);
        return ring.nodes.get(node, what);
    }

    public int groupsOn(int node) throws IndexOutOfBoundsException {
        needNode(node);
        int set = 0;
        for (int group = 0; group < ring.groups.size; group++) {
            if (isIn(ring.nodeSet(group), node)) {
                set |= 1 << group;
            }
        }
        return set;
    }

    public int nodeFrom(int position) throws IllegalArgumentException {
        needArgument(position >= 0 && position < POSITIONS);
        int best = NONE;
        for (int node = 0; node < ring.nodes.size; node++) {
            if (best == NONE || ring.wayTo(node, position) < ring.wayTo(best, position)) {
                best = node;
            }
        }
        return best;
    }

    public int clockwise(int node, int other) throws IndexOutOfBoundsException {
        needNode(node);
        needNode(other);
        return ring.wayTo(other, ring.nodes.get(node, NODE_POSITION));
    }

    public int zoneShards(int zone) throws IllegalArgumentException {
        needArgument(zone >= 0 && zone < ZONES);
        int sum = 0;
        for (int node = 0; node < ring.nodes.size; node++) {
            if (ring.nodes.get(node, NODE_ZONE) == zone) {
                sum += ring.nodes.get(node, NODE_SHARDS);
            }
        }
        return sum;
    }

    public int tenant(int tenant, int what) throws IndexOutOfBoundsException, IllegalArgumentException {
        needTenant(tenant);
        needArgument(what >= 0 && what <= TENANT_PAID);
        return ring.tenants.get(tenant, what);
    }

    public double share(int tenant) throws IndexOutOfBoundsException {
        needTenant(tenant);
        long all = 0;
        for (int each = 0; each < ring.tenants.size; each++) {
            all += ring.tenants.get(each, TENANT_BOUGHT);
        }
        return all == 0 ? 0.0 : (double) ring.tenants.get(tenant, TENANT_BOUGHT) / (double) all;
    }

    public int group(int group, int what) throws IndexOutOfBoundsException, IllegalArgumentException {
        needGroup(group);
        needArgument(what >= 0 && what <= GROUP_NEED);
        return what == GROUP_NEED ? ring.needOf(group) : ring.groups.get(group, what);
    }

    public int nodeOf(int group, int shard) throws IndexOutOfBoundsException {
        needShard(group, shard);
        return ring.nodeWith(group, shard);
    }

    public int missing(int group) throws IndexOutOfBoundsException {
        needGroup(group);
        return ring.missingSet(group);
    }

    public int zonesOf(int group) throws IndexOutOfBoundsException {
        needGroup(group);
        return Integer.bitCount(ring.zoneSet(group, ring.availableSet(group, 0)));
    }

    public int damaged() {
        return ring.damagedSet();
    }

    public int lost() {
        return ring.lostSet(0);
    }

    public int loss(int group) throws IndexOutOfBoundsException {
        needGroup(group);
        return auction.odds.lossOf(ring, group, 0);
    }

    public int lossWithout(int group, int node) throws IndexOutOfBoundsException {
        needGroup(group);
        needNode(node);
        return auction.odds.lossOf(ring, group, 1 << node);
    }

    public double expectedLoss() {
        double sum = 0.0;
        for (int group = 0; group < ring.groups.size; group++) {
            sum += (double) valueAtRisk(group, 0) / 1000000000.0;
        }
        return sum;
    }

    public int worstNode() {
        int worst = NONE;
        long most = 0;
        for (int node = 0; node < ring.nodes.size; node++) {
            if (ring.nodes.get(node, NODE_STATE) != DOWN) {
                long sum = allValueAtRisk(1 << node);
                if (worst == NONE || sum > most) {
                    worst = node;
                    most = sum;
                }
            }
        }
        return worst;
    }

    public int offer(int group) throws IndexOutOfBoundsException {
        needGroup(group);
        return auction.offerOf(ring, group);
    }

    public boolean bids(int group) throws IndexOutOfBoundsException {
        needGroup(group);
        return auction.bidOf(ring, group) > 0;
    }

    public int target(int group) throws IndexOutOfBoundsException {
        needGroup(group);
        return ring.targetOf(group);
    }

    public int bidder(int place) throws IllegalArgumentException {
        needArgument(place >= 0);
        auction.hold(ring);
        return place < auction.made.size ? auction.made.get(place, BID_GROUP) : NONE;
    }

    public int outcome(int group, int what) throws IndexOutOfBoundsException, IllegalArgumentException {
        needGroup(group);
        needArgument(what == 0 || what == 1);
        auction.hold(ring);
        return auction.made.get(auction.made.rowWith(BID_GROUP, group), what == 0 ? BID_UNITS : BID_PRICE);
    }

    public int clearingPrice() {
        auction.hold(ring);
        return auction.clearing;
    }

    public int bandwidth() {
        return ring.unitsAtHand();
    }

    public int nextRound() {
        return ring.next;
    }

    public int fail(int node) throws IndexOutOfBoundsException, IllegalStateException {
        needNode(node);
        needState(ring.nodes.get(node, NODE_STATE) != DOWN);
        saved.keep(ring);
        int before = ring.lostSet(0);
        ring.setState(node, DOWN);
        return ring.lostSet(0) & ~before;
    }

    public int recover(int node) throws IndexOutOfBoundsException, IllegalStateException {
        needNode(node);
        needState(ring.nodes.get(node, NODE_STATE) == DOWN);
        saved.keep(ring);
        int before = ring.lostSet(0);
        ring.setState(node, UP);
        return before & ~ring.lostSet(0);
    }

    public int drain(int node, boolean draining) throws IndexOutOfBoundsException, IllegalStateException {
        needNode(node);
        needState(ring.nodes.get(node, NODE_STATE) == (draining ? UP : DRAINING));
        saved.keep(ring);
        ring.setState(node, draining ? DRAINING : UP);
        return ring.nodes.get(node, NODE_SHARDS);
    }

    public int round() {
        saved.keep(ring);
        auction.hold(ring);
        auction.settle(ring);
        return auction.sold;
    }

    public int rounds(int count) throws IllegalArgumentException {
        needArgument(count >= 1 && count <= MAX_ROUNDS);
        saved.keep(ring);
        int repaired = 0;
        for (int done = 0; done < count; done++) {
            auction.hold(ring);
            auction.settle(ring);
            repaired += auction.repaired;
        }
        return repaired;
    }

    public int setRisk(int node, int risk) throws IndexOutOfBoundsException, IllegalArgumentException {
        needNode(node);
        needArgument(risk >= 0 && risk < RISKS);
        saved.keep(ring);
        int previous = ring.nodes.get(node, NODE_RISK);
        ring.nodes.set(node, NODE_RISK, risk);
        return previous;
    }

    public int setBandwidth(int units) throws IllegalArgumentException {
        needArgument(units >= 1 && units <= MAX_BANDWIDTH);
        saved.keep(ring);
        int previous = ring.unitsPerRound;
        ring.unitsPerRound = units;
        return previous;
    }

    public int setRule(int rule) throws IllegalArgumentException {
        needArgument(rule >= RULE_FIRST && rule <= RULE_UNIFORM);
        saved.keep(ring);
        int previous = ring.rule;
        ring.rule = rule;
        return previous;
    }

    public int grant(int tenant, int credits)
            throws IndexOutOfBoundsException, IllegalArgumentException, IllegalStateException {
        needTenant(tenant);
        needArgument(credits >= 1 && credits <= MAX_CREDITS);
        int purse = ring.tenants.get(tenant, TENANT_PURSE) + credits;
        needState(purse <= MAX_PURSE);
        saved.keep(ring);
        ring.tenants.set(tenant, TENANT_PURSE, purse);
        return purse;
    }

    public int move(int group, int shard, int node) throws IndexOutOfBoundsException, IllegalStateException {
        needShard(group, shard);
        needNode(node);
        needState(!isIn(ring.missingSet(group), shard) && ring.canTake(node, ring.nodeSet(group)));
        saved.keep(ring);
        int previous = ring.nodeWith(group, shard);
        ring.put(group, shard, node);
        return previous;
    }

    public int lostBy(int nodes) throws IllegalArgumentException {
        needArgument((nodes & ~ring.allNodes()) == 0);
        return ring.lostSet(nodes);
    }

    public int fewestFailures() {
        int fewest = NONE;
        for (int group = 0; group < ring.groups.size; group++) {
            int failures = ring.failuresToLose(group);
            if (failures > 0 && (fewest == NONE || failures < fewest)) {
                fewest = failures;
            }
        }
        return fewest;
    }

    public int fewestFailuresSet() {
        int fewest = fewestFailures();
        int smallest = NONE;
        for (int group = 0; group < ring.groups.size; group++) {
            if (fewest != NONE && ring.failuresToLose(group) == fewest) {
                int nodes = lowestBits(ring.availableNodes(group), fewest);
                if (smallest == NONE || nodes < smallest) {
                    smallest = nodes;
                }
            }
        }
        return smallest;
    }

    public int roundsToRepair(int group) throws IndexOutOfBoundsException {
        needGroup(group);
        return forecast.untilWhole(ring, 1 << group);
    }

    public int roundsToCalm() {
        return forecast.untilWhole(ring, ring.allGroups());
    }

    public int soldIn(int rounds) throws IllegalArgumentException {
        needArgument(rounds >= 0 && rounds <= MAX_FORECAST);
        forecast.run(ring, rounds);
        return forecast.sold;
    }

    public int purseAfter(int tenant, int rounds) throws IndexOutOfBoundsException, IllegalArgumentException {
        needTenant(tenant);
        needArgument(rounds >= 0 && rounds <= MAX_FORECAST);
        forecast.run(ring, rounds);
        return forecast.trial.tenants.get(tenant, TENANT_PURSE);
    }

    public int paidUntilCalm() {
        boolean calm = forecast.untilWhole(ring, ring.allGroups()) != NONE;
        return calm ? (int) Math.min(forecast.paid, MAX_PAID) : NONE;
    }

    public int historySize() {
        return ring.past.size;
    }

    public int history(int index, int what) throws IndexOutOfBoundsException, IllegalArgumentException {
        needIndex(ring.past.holds(index));
        needArgument(what >= 0 && what <= PAST_REPAIRED);
        return ring.past.get(index, what);
    }

    public double meanPrice(int rounds) throws IllegalArgumentException, NoSuchElementException {
        needArgument(rounds >= 1 && rounds <= MAX_PAST);
        needHistory();
        int size = ring.past.size;
        int latest = Math.min(rounds, size);
        int sum = 0;
        for (int index = size - latest; index < size; index++) {
            sum += ring.past.get(index, PAST_PRICE);
        }
        return latest == 0 ? 0.0 : (double) sum / (double) latest;
    }

    public int dearestRound() throws NoSuchElementException {
        needHistory();
        int dearest = 0;
        for (int index = 1; index < ring.past.size; index++) {
            if (ring.past.get(index, PAST_PRICE) > ring.past.get(dearest, PAST_PRICE)) {
                dearest = index;
            }
        }
        return dearest;
    }

    public int longestRise() {
        int longest = 0;
        int current = 0;
        for (int index = 0; index < ring.past.size; index++) {
            boolean rises = index > 0 && ring.past.get(index, PAST_PRICE) > ring.past.get(index - 1, PAST_PRICE);
            current = rises ? current + 1 : 1;
            longest = Math.max(longest, current);
        }
        return longest;
    }

    public int undo() throws IllegalStateException {
        needState(saved.size > 0);
        saved.bringBack(ring);
        return saved.size;
    }

    public int undoCount() {
        return saved.size;
    }

    public int writeBids() {
        auction.hold(ring);
        output.cut(0);
        for (int place = 0; place < auction.made.size; place++) {
            int group = auction.made.get(place, BID_GROUP);
            output.addName(ring.groups.nameOf(group));
            output.add(':');
            output.addNumber(auction.made.get(place, BID_OFFER));
            output.add('/');
            output.addNumber(ring.needOf(group));
            output.add('\n');
        }
        return output.size;
    }

    public int outputByte(int index) throws IndexOutOfBoundsException {
        needIndex(index >= 0 && index < output.size);
        return output.at(index);
    }

    private void needNode(int node) {
        needIndex(ring.nodes.holds(node));
    }

    private void needTenant(int tenant) {
        needIndex(ring.tenants.holds(tenant));
    }

    private void needGroup(int group) {
        needIndex(ring.groups.holds(group));
    }

    private void needShard(int group, int shard) {
        needGroup(group);
        needIndex(shard >= 0 && shard < ring.groups.get(group, GROUP_SHARDS));
    }

    private void needHistory() {
        if (ring.past.size == 0) {
            throw new NoSuchElementException("the history is empty");
        }
    }

    private static void needIndex(boolean good) {
        if (!good) {
            throw new IndexOutOfBoundsException("no such node, tenant, group, shard, round or byte");
        }
    }

    private static void needArgument(boolean good) {
        if (!good) {
            throw new IllegalArgumentException("a value is out of range");
        }
    }

    private static void needState(boolean good) {
        if (!good) {
            throw new IllegalStateException("the call does not fit the state");
        }
    }

    private static boolean isKind(int kind) {
        return kind >= KIND_NODE && kind <= KIND_GROUP;
    }

    private static boolean isIn(int set, int element) {
        return (set >> element & 1) != 0;
    }

    /** The lowest element of a set that is not empty. */
    private static int lowestOf(int set) {
        return Integer.bitCount((set & -set) - 1);
    }

    private static int lowestBits(int set, int count) {
        int rest = set;
        int lowest = 0;
        for (int taken = 0; taken < count; taken++) {
            lowest |= rest & -rest;
            rest &= rest - 1;
        }
        return lowest;
    }

    private long valueAtRisk(int group, int downToo) {
        return (long) ring.groups.get(group, GROUP_VALUE) * auction.odds.lossOf(ring, group, downToo);
    }

    private long allValueAtRisk(int downToo) {
        long sum = 0;
        for (int group = 0; group < ring.groups.size; group++) {
            sum += valueAtRisk(group, downToo);
        }
        return sum;
    }

    /** Rows of numbers. What is not there is read as 0 and not written, so that no index can fail. */
    private static final class Table {
        private final int columns;
        private final int[] cells;
        private int size;

        Table(int capacity, int columns) {
            this.columns = columns;
            this.cells = new int[Math.max(0, capacity * columns)];
        }

        boolean holds(int row) {
            return row >= 0 && row < size;
        }

        int get(int row, int column) {
            int cell = row * columns + column;
            boolean there = row >= 0 && row < size && column >= 0 && column < columns;
            return there && cell >= 0 && cell < cells.length ? cells[cell] : 0;
        }

        void set(int row, int column, int value) {
            int cell = row * columns + column;
            boolean there = row >= 0 && row < size && column >= 0 && column < columns;
            if (there && cell >= 0 && cell < cells.length) {
                cells[cell] = value;
            }
        }

        void increase(int row, int column, int value) {
            set(row, column, get(row, column) + value);
        }

        boolean isFull() {
            return (size + 1) * columns > cells.length;
        }

        void clear() {
            size = 0;
        }

        /** Makes a row of zeros in front of an old one, or behind all of them. */
        void insertRow(int row) {
            if (isFull() || row < 0 || row > size) {
                return;
            }
            int from = row * columns;
            System.arraycopy(cells, from, cells, from + columns, (size - row) * columns);
            size++;
            for (int column = 0; column < columns; column++) {
                set(row, column, 0);
            }
        }

        int addNamed(int name) {
            int row = size;
            insertRow(row);
            set(row, columns - 1, name);
            return row;
        }

        void dropFirstRow() {
            if (size > 0 && size * columns <= cells.length) {
                System.arraycopy(cells, columns, cells, 0, (size - 1) * columns);
                size--;
            }
        }

        int rowWith(int column, int value) {
            for (int row = 0; row < size; row++) {
                if (get(row, column) == value) {
                    return row;
                }
            }
            return NONE;
        }

        int named(int name) {
            return rowWith(columns - 1, name);
        }

        int nameOf(int row) {
            return get(row, columns - 1);
        }

        void copyFrom(Table other) {
            size = other.size;
            System.arraycopy(other.cells, 0, cells, 0, Math.min(other.cells.length, cells.length));
        }
    }

    /** A buffer of bytes. A name of letters is packed into a number, five bits a letter, a is 1. */
    private static final class Bytes {
        private final byte[] bytes;
        private int size;

        Bytes(int capacity) {
            bytes = new byte[Math.max(0, capacity)];
        }

        int at(int index) {
            return index >= 0 && index < size && index < bytes.length ? bytes[index] & 255 : 0;
        }

        void cut(int length) {
            size = length;
        }

        void add(int value) {
            if (size >= 0 && size < bytes.length) {
                bytes[size] = (byte) value;
                size++;
            }
        }

        void addFour(int value) {
            for (int shift = 24; shift >= 0; shift -= 8) {
                add(value >> shift);
            }
        }

        void addName(int name) {
            for (int shift = 5 * (MAX_NAME - 1); shift >= 0; shift -= 5) {
                int letter = name >> shift & 31;
                if (letter > 0) {
                    add('a' + letter - 1);
                }
            }
        }

        void addNumber(int number) {
            for (int power = 1000000000; power > 0; power /= 10) {
                if (number >= power || power == 1) {
                    add('0' + number / power % 10);
                }
            }
        }

        /** The packed name that stands between two places; 0 if it is not one to six letters a-z. */
        int nameBetween(int from, int to) {
            if (to - from > MAX_NAME) {
                return 0;
            }
            int name = 0;
            for (int index = from; index < to; index++) {
                if (!isLetter(at(index))) {
                    return 0;
                }
                name = name << 5 | at(index) - 'a' + 1;
            }
            return name;
        }

        boolean spells(String word, int from, int to) {
            if (to - from != word.length()) {
                return false;
            }
            for (int index = 0; index < word.length(); index++) {
                if (at(from + index) != word.charAt(index)) {
                    return false;
                }
            }
            return true;
        }

        static boolean isLetter(int value) {
            return value >= 'a' && value <= 'z';
        }

        static boolean isDigit(int value) {
            return value >= '0' && value <= '9';
        }

        static boolean isBlank(int value) {
            return value == ' ' || value == '\n';
        }
    }

    /** All that undo() restores: nodes, tenants, groups, the history and the numbers of the ring. */
    private static final class Ring {
        private final Table nodes = new Table(MAX_NODES, NODE_COLUMNS);
        private final Table tenants = new Table(MAX_TENANTS, TENANT_COLUMNS);
        private final Table groups = new Table(MAX_GROUPS, GROUP_COLUMNS);
        private final Table past = new Table(MAX_PAST, PAST_COLUMNS);
        private int unitsPerRound = 1;
        private int carryLimit;
        private int reserve;
        private int rule;
        private int carried;
        private int next;

        void clearThings() {
            nodes.clear();
            tenants.clear();
            groups.clear();
        }

        void copyFrom(Ring other) {
            nodes.copyFrom(other.nodes);
            tenants.copyFrom(other.tenants);
            groups.copyFrom(other.groups);
            past.copyFrom(other.past);
            unitsPerRound = other.unitsPerRound;
            carryLimit = other.carryLimit;
            reserve = other.reserve;
            rule = other.rule;
            carried = other.carried;
            next = other.next;
        }

        Table tableOf(int kind) {
            if (kind == KIND_NODE) {
                return nodes;
            }
            return kind == KIND_TENANT ? tenants : groups;
        }

        int allNodes() {
            return (1 << nodes.size) - 1;
        }

        int allGroups() {
            return (1 << groups.size) - 1;
        }

        int nodeWith(int group, int shard) {
            return groups.get(group, FIRST_SHARD + shard);
        }

        int wayTo(int node, int position) {
            return Math.floorMod(nodes.get(node, NODE_POSITION) - position, POSITIONS);
        }

        void setState(int node, int state) {
            nodes.set(node, NODE_STATE, state);
            nodes.set(node, NODE_SINCE, next);
        }

        /** The shards whose nodes would not be down if those of a set were down, too. */
        int availableSet(int group, int downToo) {
            int set = 0;
            int shards = groups.get(group, GROUP_SHARDS);
            for (int shard = 0; shard < shards; shard++) {
                int node = groups.get(group, FIRST_SHARD + shard);
                if (nodes.get(node, NODE_STATE) != DOWN && (downToo >> node & 1) == 0) {
                    set |= 1 << shard;
                }
            }
            return set;
        }

        int missingSet(int group) {
            int all = (1 << groups.get(group, GROUP_SHARDS)) - 1;
            return all & ~availableSet(group, 0);
        }

        int damagedSet() {
            int set = 0;
            for (int group = 0; group < groups.size; group++) {
                if (missingSet(group) != 0) {
                    set |= 1 << group;
                }
            }
            return set;
        }

        /** How many more shards can be missing before the group is lost; negative if it is. */
        int spareShards(int group, int downToo) {
            return Integer.bitCount(availableSet(group, downToo)) - groups.get(group, GROUP_DATA);
        }

        int lostSet(int downToo) {
            int set = 0;
            for (int group = 0; group < groups.size; group++) {
                if (spareShards(group, downToo) < 0) {
                    set |= 1 << group;
                }
            }
            return set;
        }

        /** How many failures make the group lost; at most 0 if it is lost already. */
        int failuresToLose(int group) {
            return spareShards(group, 0) + 1;
        }

        int nodeSet(int group) {
            int set = 0;
            int shards = groups.get(group, GROUP_SHARDS);
            for (int shard = 0; shard < shards; shard++) {
                int node = groups.get(group, FIRST_SHARD + shard);
                if (node != NONE) {
                    set |= 1 << node;
                }
            }
            return set;
        }

        int availableNodes(int group) {
            int set = nodeSet(group);
            for (int node = 0; node < nodes.size; node++) {
                if (nodes.get(node, NODE_STATE) == DOWN) {
                    set &= ~(1 << node);
                }
            }
            return set;
        }

        /** The zones of the nodes of a set of shards, as far as these are placed. */
        int zoneSet(int group, int shards) {
            int set = 0;
            int count = groups.get(group, GROUP_SHARDS);
            for (int shard = 0; shard < count; shard++) {
                int node = groups.get(group, FIRST_SHARD + shard);
                if (node != NONE && (shards >> shard & 1) != 0) {
                    set |= 1 << nodes.get(node, NODE_ZONE);
                }
            }
            return set;
        }

        boolean canTake(int node, int nodesOfGroup) {
            return nodes.get(node, NODE_STATE) == UP
                    && nodes.get(node, NODE_SHARDS) < nodes.get(node, NODE_ROOM)
                    && (nodesOfGroup >> node & 1) == 0;
        }

        /** The node that a shard is placed on from a position on; NONE if none can take it. */
        int placeFor(int group, int shard, int position) {
            int nodesOfGroup = nodeSet(group);
            int zones = zoneSet(group, ~(1 << shard));
            int best = NONE;
            int shortest = 0;
            for (int node = 0; node < nodes.size; node++) {
                if (canTake(node, nodesOfGroup)) {
                    boolean zoneIsFree = (zones >> nodes.get(node, NODE_ZONE) & 1) == 0;
                    // A turn of the ring more puts a node of a used zone behind all the others.
                    int way = wayTo(node, position) + (zoneIsFree ? 0 : POSITIONS);
                    if (best == NONE || way < shortest) {
                        best = node;
                        shortest = way;
                    }
                }
            }
            return best;
        }

        int targetOf(int group) {
            int missing = missingSet(group);
            if (missing == 0) {
                return NONE;
            }
            int shard = lowestOf(missing);
            int old = groups.get(group, FIRST_SHARD + shard);
            return placeFor(group, shard, nodes.get(old, NODE_POSITION) + 1);
        }

        void put(int group, int shard, int node) {
            int old = groups.get(group, FIRST_SHARD + shard);
            nodes.increase(old, NODE_SHARDS, -1);
            nodes.increase(node, NODE_SHARDS, 1);
            groups.set(group, FIRST_SHARD + shard, node);
        }

        /** Places the shards of a new group; false if they cannot all be placed. */
        boolean placeAll(int group) {
            int shards = groups.get(group, GROUP_SHARDS);
            for (int shard = 0; shard < shards; shard++) {
                groups.set(group, FIRST_SHARD + shard, NONE);
            }
            int position = groups.get(group, GROUP_KEY);
            for (int shard = 0; shard < shards; shard++) {
                int node = placeFor(group, shard, position);
                if (node == NONE) {
                    return false;
                }
                put(group, shard, node);
                position = nodes.get(node, NODE_POSITION) + 1;
            }
            return true;
        }

        int needOf(int group) {
            int missing = Integer.bitCount(missingSet(group));
            return Math.max(0, missing * groups.get(group, GROUP_COST) - groups.get(group, GROUP_PROGRESS));
        }

        int unitsAtHand() {
            return unitsPerRound + carried;
        }

        int grownPurse(int tenant) {
            int purse = tenants.get(tenant, TENANT_PURSE);
            int most = tenants.get(tenant, TENANT_MOST);
            return purse >= most ? purse : Math.min(most, purse + tenants.get(tenant, TENANT_INCOME));
        }

        void note(int sold, int price, int bidCount, int repaired) {
            if (past.isFull()) {
                past.dropFirstRow();
            }
            int row = past.size;
            past.insertRow(row);
            past.set(row, PAST_ROUND, next);
            past.set(row, PAST_SOLD, sold);
            past.set(row, PAST_PRICE, price);
            past.set(row, PAST_BIDS, bidCount);
            past.set(row, PAST_REPAIRED, repaired);
            next++;
        }
    }

    /** Reckons the losses of groups. */
    private static final class Odds {
        private final long[] chances = new long[MAX_SHARDS + 1];

        /** What the loss of a group would be if the nodes of a set were down, too. */
        int lossOf(Ring ring, int group, int downToo) {
            int set = ring.availableSet(group, downToo);
            int available = Integer.bitCount(set);
            int spare = available - ring.groups.get(group, GROUP_DATA);
            if (spare < 0) {
                return CERTAIN;
            }
            for (int j = 0; j < chances.length; j++) {
                chances[j] = j == 0 ? CERTAIN : 0;
            }
            for (int shard = 0; shard < MAX_SHARDS; shard++) {
                if ((set >> shard & 1) != 0) {
                    addRisk(ring.nodes.get(ring.nodeWith(group, shard), NODE_RISK), available);
                }
            }
            long loss = 0;
            for (int j = spare + 1; j <= available && j < chances.length; j++) {
                loss += chances[j];
            }
            return (int) loss;
        }

        private void addRisk(int risk, int available) {
            for (int j = Math.min(available, chances.length - 1); j >= 0; j--) {
                long fewer = j > 0 ? chances[j - 1] : 0;
                chances[j] = (chances[j] * (RISKS - risk) + fewer * risk) / RISKS;
            }
        }
    }

    /** One round: hold() finds who gets what at which price, settle() then changes the ring. */
    private static final class Auction {
        private final Odds odds = new Odds();
        private final Table made = new Table(MAX_GROUPS, BID_COLUMNS);
        private int clearing;
        private int sold;
        private int repaired;
        private int paid;

        void hold(Ring ring) {
            made.clear();
            for (int group = 0; group < ring.groups.size; group++) {
                int offer = bidOf(ring, group);
                if (offer > 0) {
                    enter(group, offer);
                }
            }
            sell(ring);
            for (int place = 0; place < made.size; place++) {
                boolean pays = made.get(place, BID_UNITS) > 0;
                made.set(place, BID_PRICE, pays ? priceAt(ring, place) : 0);
            }
        }

        int offerOf(Ring ring, int group) {
            long value = ring.groups.get(group, GROUP_VALUE);
            return (int) Math.min(MAX_OFFER, value * odds.lossOf(ring, group, 0) / 1000000);
        }

        /** The offer of the group's bid; 0 if it does not bid. */
        int bidOf(Ring ring, int group) {
            boolean wants = ring.needOf(group) > 0 && ring.spareShards(group, 0) >= 0;
            if (!wants || ring.targetOf(group) == NONE) {
                return 0;
            }
            int offer = offerOf(ring, group);
            return offer >= ring.reserve ? offer : 0;
        }

        private void enter(int group, int offer) {
            int place = 0;
            for (int other = 0; other < made.size; other++) {
                if (made.get(other, BID_OFFER) >= offer) {
                    place = other + 1;
                }
            }
            made.insertRow(place);
            made.set(place, BID_GROUP, group);
            made.set(place, BID_OFFER, offer);
        }

        private void sell(Ring ring) {
            sold = 0;
            clearing = ring.reserve;
            boolean isScarce = false;
            for (int place = 0; place < made.size; place++) {
                int need = ring.needOf(made.get(place, BID_GROUP));
                int payable = unitsPayable(ring, place);
                int units = Math.min(Math.min(need, payable), ring.unitsAtHand() - sold);
                if (!isScarce && units < need && units < payable) {
                    isScarce = true;
                    clearing = made.get(place, BID_OFFER);
                }
                made.set(place, BID_UNITS, units);
                sold += units;
            }
        }

        private int unitsPayable(Ring ring, int place) {
            int tenant = tenantAt(ring, place);
            int purse = ring.grownPurse(tenant);
            for (int ahead = 0; ahead < place; ahead++) {
                if (tenantAt(ring, ahead) == tenant) {
                    purse -= made.get(ahead, BID_OFFER) * made.get(ahead, BID_UNITS);
                }
            }
            int offer = made.get(place, BID_OFFER);
            return offer > 0 ? purse / offer : 0;
        }

        private int tenantAt(Ring ring, int place) {
            return ring.groups.get(made.get(place, BID_GROUP), GROUP_TENANT);
        }

        private int priceAt(Ring ring, int place) {
            if (ring.rule == RULE_FIRST) {
                return made.get(place, BID_OFFER);
            }
            if (ring.rule == RULE_SECOND) {
                return place + 1 < made.size ? made.get(place + 1, BID_OFFER) : ring.reserve;
            }
            return clearing;
        }

        void settle(Ring ring) {
            for (int tenant = 0; tenant < ring.tenants.size; tenant++) {
                ring.tenants.set(tenant, TENANT_PURSE, ring.grownPurse(tenant));
            }
            paid = 0;
            repaired = 0;
            for (int place = 0; place < made.size; place++) {
                charge(ring, place);
                repair(ring, place);
            }
            ring.carried = Math.min(ring.unitsAtHand() - sold, ring.carryLimit);
            ring.note(sold, clearing, made.size, repaired);
        }

        private void charge(Ring ring, int place) {
            int tenant = tenantAt(ring, place);
            int units = made.get(place, BID_UNITS);
            int credits = units * made.get(place, BID_PRICE);
            int paidSoFar = ring.tenants.get(tenant, TENANT_PAID);
            ring.tenants.increase(tenant, TENANT_PURSE, -credits);
            ring.tenants.increase(tenant, TENANT_BOUGHT, units);
            ring.tenants.set(tenant, TENANT_PAID, Math.min(paidSoFar + credits, MAX_PAID));
            paid += credits;
        }

        private void repair(Ring ring, int place) {
            int group = made.get(place, BID_GROUP);
            int cost = ring.groups.get(group, GROUP_COST);
            ring.groups.increase(group, GROUP_PROGRESS, made.get(place, BID_UNITS));
            for (int tries = 0; tries < MAX_SHARDS; tries++) {
                int missing = ring.missingSet(group);
                int node = ring.targetOf(group);
                if (missing == 0 || node == NONE || ring.groups.get(group, GROUP_PROGRESS) < cost) {
                    return;
                }
                ring.put(group, lowestOf(missing), node);
                ring.groups.increase(group, GROUP_PROGRESS, -cost);
                repaired++;
            }
        }
    }

    /** Runs rounds on a copy of the ring. */
    private static final class Forecast {
        private final Ring trial = new Ring();
        private final Auction auction = new Auction();
        private int sold;
        private long paid;

        void run(Ring ring, int rounds) {
            begin(ring);
            for (int done = 0; done < rounds; done++) {
                auction.hold(trial);
                auction.settle(trial);
                addUp();
            }
        }

        /** After how many rounds no group of the set is damaged any more; NONE if that takes too many. */
        int untilWhole(Ring ring, int groups) {
            begin(ring);
            for (int done = 0; done < MAX_FORECAST; done++) {
                if ((trial.damagedSet() & groups) == 0) {
                    return done;
                }
                auction.hold(trial);
                auction.settle(trial);
                addUp();
            }
            return (trial.damagedSet() & groups) == 0 ? MAX_FORECAST : NONE;
        }

        private void begin(Ring ring) {
            trial.copyFrom(ring);
            sold = 0;
            paid = 0;
        }

        private void addUp() {
            sold += auction.sold;
            paid += auction.paid;
        }
    }

    /** The latest states that can be brought back; the oldest one makes room for a new one. */
    private static final class Undo {
        private final Ring[] kept = new Ring[MAX_UNDO];
        private int oldest;
        private int size;

        Undo() {
            for (int index = 0; index < kept.length; index++) {
                kept[index] = new Ring();
            }
        }

        void keep(Ring ring) {
            if (size == MAX_UNDO) {
                oldest = (oldest + 1) % MAX_UNDO;
                size--;
            }
            Ring slot = slotAt(size);
            if (slot != null) {
                slot.copyFrom(ring);
                size++;
            }
        }

        void bringBack(Ring ring) {
            Ring slot = slotAt(size - 1);
            if (slot != null) {
                ring.copyFrom(slot);
                size--;
            }
        }

        private Ring slotAt(int place) {
            int index = (oldest + place) % MAX_UNDO;
            return place >= 0 && index >= 0 && index < kept.length ? kept[index] : null;
        }
    }

    /** The words that are no names. */
    private enum Keyword {
        RING("ring"), BANDWIDTH("bandwidth"), CARRY("carry"), RESERVE("reserve"), PRICE("price"),
        FIRST("first"), SECOND("second"), UNIFORM("uniform"),
        NODE("node"), AT("at"), ZONE("zone"), RISK("risk"), ROOM("room"),
        TENANT("tenant"), INCOME("income"), MOST("most"),
        GROUP("group"), OF("of"), KEY("key"), DATA("data"), PARITY("parity"), SIZE("size"), VALUE("value");

        private final String text;

        Keyword(String text) {
            this.text = text;
        }
    }

    /** Reads a text into a ring of its own. Behind the first error nothing is taken any more. */
    private static final class Parser {
        private static final int END = 0;
        private static final int WORD = 1;
        private static final int NUMBER = 2;
        private static final int SYMBOL = 3;

        private static final int MISPLACED = 1;
        private static final int OUT_OF_RANGE = 2;
        private static final int BAD_NAME = 3;
        private static final int TOO_MANY = 4;
        private static final int NO_PLACE = 5;

        // Far above all ranges, and ten times as much and a digit is still an int.
        private static final int ENOUGH = 100000000;

        private final Bytes text;
        private final Ring ring = new Ring();
        private int code;
        private int position;
        private int kind;
        private int start;
        private int end;
        private int number;

        Parser(Bytes text) {
            this.text = text;
        }

        boolean parse() {
            // No round is run on this ring, so that its history is empty and its next round is 0.
            ring.clearThings();
            code = 0;
            end = 0;
            nextToken();
            readRing();
            for (int statements = 0; statements < MAX_INPUT && code == 0 && kind != END; statements++) {
                if (isAt(Keyword.NODE)) {
                    readNode();
                } else if (isAt(Keyword.TENANT)) {
                    readTenant();
                } else if (isAt(Keyword.GROUP)) {
                    readGroup();
                } else {
                    refuse(MISPLACED, start);
                }
            }
            return code == 0;
        }

        private void readRing() {
            take(Keyword.RING);
            take(Keyword.BANDWIDTH);
            ring.unitsPerRound = takeNumber(1, MAX_BANDWIDTH);
            take(Keyword.CARRY);
            ring.carryLimit = takeNumber(0, MAX_BANDWIDTH);
            take(Keyword.RESERVE);
            ring.reserve = takeNumber(0, MAX_RESERVE);
            take(Keyword.PRICE);
            ring.rule = takeRule();
            takeEnd();
        }

        private int takeRule() {
            if (isAt(Keyword.SECOND)) {
                take(Keyword.SECOND);
                return RULE_SECOND;
            }
            if (isAt(Keyword.UNIFORM)) {
                take(Keyword.UNIFORM);
                return RULE_UNIFORM;
            }
            take(Keyword.FIRST);
            return RULE_FIRST;
        }

        private void readNode() {
            int name = takeBeginning(Keyword.NODE, ring.nodes);
            take(Keyword.AT);
            int positionStart = start;
            int ringPosition = takeNumber(0, POSITIONS - 1);
            if (ring.nodes.rowWith(NODE_POSITION, ringPosition) != NONE) {
                refuse(BAD_NAME, positionStart);
            }
            take(Keyword.ZONE);
            int zone = takeNumber(0, ZONES - 1);
            take(Keyword.RISK);
            int risk = takeNumber(0, RISKS - 1);
            take(Keyword.ROOM);
            int room = takeNumber(1, 50);
            takeEnd();
            if (code == 0) {
                int node = ring.nodes.addNamed(name);
                ring.nodes.set(node, NODE_POSITION, ringPosition);
                ring.nodes.set(node, NODE_ZONE, zone);
                ring.nodes.set(node, NODE_RISK, risk);
                ring.nodes.set(node, NODE_ROOM, room);
            }
        }

        private void readTenant() {
            int name = takeBeginning(Keyword.TENANT, ring.tenants);
            take(Keyword.INCOME);
            int income = takeNumber(0, MAX_CREDITS);
            take(Keyword.MOST);
            int most = takeNumber(0, MAX_CREDITS);
            takeEnd();
            if (code == 0) {
                int tenant = ring.tenants.addNamed(name);
                ring.tenants.set(tenant, TENANT_INCOME, income);
                ring.tenants.set(tenant, TENANT_MOST, most);
            }
        }

        private void readGroup() {
            int name = takeBeginning(Keyword.GROUP, ring.groups);
            take(Keyword.OF);
            int tenantStart = start;
            int tenant = ring.tenants.named(takeName());
            if (tenant == NONE) {
                refuse(BAD_NAME, tenantStart);
            }
            take(Keyword.KEY);
            int key = takeNumber(0, POSITIONS - 1);
            take(Keyword.DATA);
            int data = takeNumber(1, 6);
            take(Keyword.PARITY);
            int parity = takeNumber(1, 4);
            take(Keyword.SIZE);
            int size = takeNumber(1, 100);
            take(Keyword.VALUE);
            int value = takeNumber(1, 9999);
            int endStart = start;
            takeEnd();
            if (code == 0) {
                int group = ring.groups.addNamed(name);
                ring.groups.set(group, GROUP_TENANT, tenant);
                ring.groups.set(group, GROUP_KEY, key);
                ring.groups.set(group, GROUP_DATA, data);
                ring.groups.set(group, GROUP_PARITY, parity);
                ring.groups.set(group, GROUP_SIZE, size);
                ring.groups.set(group, GROUP_VALUE, value);
                ring.groups.set(group, GROUP_COST, (data + 1) * size);
                ring.groups.set(group, GROUP_SHARDS, data + parity);
                if (!ring.placeAll(group)) {
                    refuse(NO_PLACE, endStart);
                }
            }
        }

        /** Takes the first word of a statement and the new name behind it. */
        private int takeBeginning(Keyword keyword, Table things) {
            if (things.isFull()) {
                refuse(TOO_MANY, start);
            }
            take(keyword);
            int nameStart = start;
            int name = takeName();
            if (things.named(name) != NONE) {
                refuse(BAD_NAME, nameStart);
            }
            return name;
        }

        private int takeName() {
            int name = kind == WORD ? text.nameBetween(start, end) : 0;
            if (name == 0 || isKeyword()) {
                refuse(MISPLACED, start);
            }
            nextToken();
            return name;
        }

        private int takeNumber(int least, int most) {
            if (kind != NUMBER) {
                refuse(MISPLACED, start);
            } else if (number < least || number > most) {
                refuse(OUT_OF_RANGE, start);
            }
            int taken = number;
            nextToken();
            return taken;
        }

        private void take(Keyword keyword) {
            if (!isAt(keyword)) {
                refuse(MISPLACED, start);
            }
            nextToken();
        }

        private void takeEnd() {
            if (kind != SYMBOL || text.at(start) != ';') {
                refuse(MISPLACED, start);
            }
            nextToken();
        }

        private boolean isAt(Keyword keyword) {
            return kind == WORD && text.spells(keyword.text, start, end);
        }

        private boolean isKeyword() {
            for (int index = 0; index < KEYWORDS.length; index++) {
                if (text.spells(KEYWORDS[index].text, start, end)) {
                    return true;
                }
            }
            return false;
        }

        private void refuse(int errorCode, int errorPosition) {
            if (code == 0) {
                code = errorCode;
                position = errorPosition;
            }
        }

        private void nextToken() {
            if (code != 0) {
                return;
            }
            start = end;
            while (start < text.size && Bytes.isBlank(text.at(start))) {
                start++;
            }
            end = start;
            number = 0;
            if (start >= text.size) {
                kind = END;
            } else if (Bytes.isLetter(text.at(start))) {
                kind = WORD;
                skipLetters();
            } else if (Bytes.isDigit(text.at(start))) {
                kind = NUMBER;
                readDigits();
            } else {
                kind = SYMBOL;
                end = start + 1;
            }
        }

        private void skipLetters() {
            while (end < text.size && Bytes.isLetter(text.at(end))) {
                end++;
            }
        }

        private void readDigits() {
            while (end < text.size && Bytes.isDigit(text.at(end))) {
                number = Math.min(ENOUGH, number * 10 + text.at(end) - '0');
                end++;
            }
        }
    }
}
