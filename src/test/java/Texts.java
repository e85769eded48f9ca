import java.nio.charset.StandardCharsets;

/** Puts texts into the input buffer and reads the output buffer. */
final class Texts {
    static final String RING = "ring bandwidth 100 carry 30 reserve 5 price first;";

    /**
     * ga has its shards on na and nb, gb on nb, nc and nd; the losses are 0.02 and 0.01, the costs
     * of a shard 20 and 15 units.
     */
    static final String SMALL = RING
            + "node na at 100 zone 0 risk 100 room 3;"
            + "node nb at 2600 zone 1 risk 200 room 3;"
            + "node nc at 5100 zone 2 risk 0 room 3;"
            + "node nd at 7600 zone 0 risk 50 room 3;"
            + "tenant ta income 1000 most 5000;"
            + "tenant tb income 0 most 0;"
            + "group ga of ta key 0 data 1 parity 1 size 10 value 20;"
            + "group gb of tb key 2600 data 2 parity 1 size 5 value 9999;";

    /**
     * Groups with key 0 and two shards have these on a and b, and are repaired on c, or d if c is not
     * up. If b alone is down, each of them offers its value.
     */
    static final String FOUR = node("a", 0, 0, 1, 50) + node("b", 10, 1, 0, 50) + node("c", 20, 2, 0, 50)
            + node("d", 30, 3, 0, 50);

    private Texts() {
    }

    static String ring(int bandwidth, int carry, int reserve, String rule) {
        return "ring bandwidth " + bandwidth + " carry " + carry + " reserve " + reserve + " price " + rule + ";";
    }

    static String node(String name, int at, int zone, int risk, int room) {
        return "node " + name + " at " + at + " zone " + zone + " risk " + risk + " room " + room + ";";
    }

    static String tenant(String name, int income, int most) {
        return "tenant " + name + " income " + income + " most " + most + ";";
    }

    static String group(String name, String of, int key, int data, int parity, int size, int value) {
        return "group " + name + " of " + of + " key " + key + " data " + data + " parity " + parity + " size " + size
                + " value " + value + ";";
    }

    /** A group of a and b (see FOUR) whose repair costs 2 * size units. */
    static String pair(String name, String of, int size, int value) {
        return group(name, of, 0, 1, 1, size, value);
    }

    /** Nodes a, b, .. at positions 0, 10, .. in zones of their own (0 behind 9), with a risk and a room. */
    static String nodes(int count, int risk, int room) {
        StringBuilder text = new StringBuilder();
        for (int node = 0; node < count; node++) {
            text.append(node("" + (char) ('a' + node), 10 * node, node % 10, risk, room));
        }
        return text.toString();
    }

    static void append(RepairAuction x, String text) {
        byte[] bytes = text.getBytes(StandardCharsets.ISO_8859_1);
        int length = 0;
        for (int from = 0; from < bytes.length; from += 20) {
            length = x.append(four(bytes, from), four(bytes, from + 4), four(bytes, from + 8),
                    four(bytes, from + 12), four(bytes, from + 16));
        }
        int surplus = (20 - bytes.length % 20) % 20;
        if (surplus > 0) {
            x.truncate(length - surplus);
        }
    }

    private static int four(byte[] bytes, int from) {
        int value = 0;
        for (int i = from; i < from + 4; i++) {
            value = value << 8 | (i < bytes.length ? bytes[i] & 255 : ' ');
        }
        return value;
    }

    static int load(RepairAuction x, String text) {
        append(x, text);
        return x.load();
    }

    static RepairAuction loaded(String text) {
        RepairAuction x = new RepairAuction();
        Check.yes("load() of " + text, load(x, text) >= 0);
        return x;
    }

    /** Sixteen nodes, a tenant, and ten groups of ten shards that offer 9999 as soon as four are missing. */
    static String large() {
        StringBuilder text = new StringBuilder("ring bandwidth 99999 carry 0 reserve 0 price first;");
        for (int node = 0; node < 16; node++) {
            text.append("node ").append((char) ('a' + node)).append(" at ").append(node);
            text.append(" zone 0 risk 999 room 50;");
        }
        text.append("tenant t income 999999 most 999999;");
        for (int group = 0; group < 10; group++) {
            text.append("group ").append((char) ('a' + group));
            text.append(" of t key 0 data 6 parity 4 size 100 value 9999;");
        }
        return text.toString();
    }

    /** All that an object tells of its state, undoCount() and the two buffers aside. */
    static String state(RepairAuction x) {
        StringBuilder text = new StringBuilder();
        text.append(x.bandwidth()).append(' ').append(x.nextRound()).append(' ').append(x.clearingPrice());
        for (int node = 0; node < x.count(0); node++) {
            text.append("\nnode");
            for (int what = 0; what < 7; what++) {
                text.append(' ').append(x.node(node, what));
            }
        }
        for (int tenant = 0; tenant < x.count(1); tenant++) {
            text.append("\ntenant");
            for (int what = 0; what < 5; what++) {
                text.append(' ').append(x.tenant(tenant, what));
            }
        }
        for (int group = 0; group < x.count(2); group++) {
            text.append("\ngroup");
            for (int what = 0; what < 9; what++) {
                text.append(' ').append(x.group(group, what));
            }
            for (int shard = 0; shard < x.group(group, 2) + x.group(group, 3); shard++) {
                text.append(" on ").append(x.nodeOf(group, shard));
            }
        }
        for (int index = 0; index < x.historySize(); index++) {
            text.append("\nround");
            for (int what = 0; what < 5; what++) {
                text.append(' ').append(x.history(index, what));
            }
        }
        int rule = x.setRule(0);
        x.undo();
        return text.append("\nrule ").append(rule).toString();
    }

    /**
     * All that can be seen of an object in some 400 calls, what undo() brings back, too. It tells
     * the rule if a group pays, the carry behind two rounds, and what node's name the input is.
     * The object is of no use behind that.
     */
    static String everything(RepairAuction x) {
        StringBuilder text = new StringBuilder();
        text.append(x.errorCode()).append(' ').append(x.errorPosition()).append(' ').append(x.undoCount());
        text.append(" output ").append(sampled(x)).append(" input ").append(inputLength(x));
        text.append(' ').append(x.find(0)).append('\n').append(brief(x));
        for (int node = 0; node < x.count(0); node++) {
            text.append("\nnode ").append(x.groupsOn(node));
            text.append(' ').append(x.node(node, 2)).append(' ').append(x.node(node, 4)).append(' ').append(x.node(node, 5));
            text.append(' ').append(x.node(node, 6));
        }
        for (int tenant = 0; tenant < x.count(1); tenant++) {
            for (int what = 2; what < 5; what++) {
                text.append(' ').append(x.tenant(tenant, what));
            }
        }
        for (int group = 0; group < x.count(2); group++) {
            text.append("\ngroup ").append(x.group(group, 6)).append(' ').append(x.outcome(group, 1));
        }
        while (x.undoCount() > 0) {
            text.append("\nundo ").append(x.undo()).append(' ').append(x.bandwidth()).append(' ').append(x.nextRound());
            text.append(' ').append(x.damaged()).append(' ').append(x.expectedLoss());
        }
        text.append("\nrounds ").append(x.rounds(2)).append(' ').append(x.bandwidth());
        return text.toString();
    }

    private static String brief(RepairAuction x) {
        StringBuilder text = new StringBuilder();
        text.append(x.bandwidth()).append(' ').append(x.nextRound()).append(' ').append(x.clearingPrice());
        text.append(' ').append(x.damaged()).append(' ').append(x.lost()).append(' ').append(x.expectedLoss());
        int size = x.historySize();
        text.append(" history ").append(size);
        if (size > 0) {
            text.append(' ').append(x.history(0, 0)).append(' ').append(x.history(size - 1, 1));
        }
        return text.toString();
    }

    /** The length of the output buffer and some of its bytes, in some 30 calls. */
    private static String sampled(RepairAuction x) {
        int length = 0;
        for (int step = 256; step > 0; step /= 2) {
            length += hasByte(x, length + step - 1) ? step : 0;
        }
        StringBuilder text = new StringBuilder().append(length);
        for (int index = 0; index < length; index += 9) {
            text.append(' ').append(x.outputByte(index));
        }
        return text.toString();
    }

    private static boolean hasByte(RepairAuction x, int index) {
        try {
            return x.outputByte(index) > 0;
        } catch (IndexOutOfBoundsException e) {
            return false;
        }
    }

    /** The output buffer as it is, without writing it. */
    static String written(RepairAuction x) {
        StringBuilder text = new StringBuilder();
        try {
            for (int index = 0; index < 300; index++) {
                text.append((char) x.outputByte(index));
            }
        } catch (IndexOutOfBoundsException end) {
            return text.toString();
        }
        return "too long";
    }

    /** How many bytes stand in the input buffer, which stays as it is. */
    static int inputLength(RepairAuction x) {
        try {
            int length = x.append(0, 0, 0, 0, 0) - 20;
            x.truncate(length);
            return length;
        } catch (IllegalStateException full) {
            for (int length = 1400; length > 1380; length--) {
                if (canTruncate(x, length)) {
                    return length;
                }
            }
            return -1;
        }
    }

    private static boolean canTruncate(RepairAuction x, int length) {
        try {
            x.truncate(length);
            return true;
        } catch (IllegalArgumentException e) {
            return false;
        }
    }

    static int find(RepairAuction x, int kind, String name) {
        append(x, name);
        return x.find(kind);
    }

    static String output(RepairAuction x) {
        int length = x.writeBids();
        StringBuilder text = new StringBuilder();
        for (int i = 0; i < length; i++) {
            text.append((char) x.outputByte(i));
        }
        return text.toString();
    }
}
