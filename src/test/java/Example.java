/** Loads a ring, lets a node fail, and runs rounds until no shard is missing. README.md shows this program. */
public final class Example {
    private static final String TEXT = """
            ring bandwidth 10 carry 5 reserve 2 price second;
            node a at 0 zone 0 risk 100 room 5;
            node b at 1000 zone 0 risk 100 room 5;
            node c at 2000 zone 1 risk 100 room 5;
            node d at 3000 zone 2 risk 0 room 5;
            tenant t income 50 most 200;
            group g of t key 500 data 1 parity 1 size 4 value 100;
            group h of t key 1500 data 2 parity 1 size 3 value 50;
            """;

    private Example() {
    }

    public static void main(String[] args) {
        RepairAuction ring = new RepairAuction();
        append(ring, TEXT);
        if (ring.load() == RepairAuction.PARSE_ERROR) {
            System.out.println("error " + ring.errorCode() + " at byte " + ring.errorPosition());
            return;
        }
        append(ring, "c");
        int node = ring.find(0);
        System.out.println("lost by the failure of node " + node + ": " + groups(ring.fail(node)));
        System.out.println("damaged by it: " + groups(ring.damaged()));
        ring.grant(0, 200000);
        System.out.print(bids(ring));
        int rounds = ring.roundsToCalm();
        System.out.println("calm after " + rounds + " rounds, for " + ring.paidUntilCalm() + " credits");
        for (int done = 0; done < rounds; done++) {
            System.out.println("round " + ring.nextRound() + " sells " + ring.round() + " units");
        }
        System.out.println("shard 1 of group 0 is on node " + ring.nodeOf(0, 1));
        ring.undo();
        System.out.println("damaged behind undo(): " + groups(ring.damaged()));
        try {
            ring.fail(node);
        } catch (IllegalStateException e) {
            System.out.println("node " + node + " is down already");
        }
    }

    /** Appends characters 0 to 255; append() takes twenty of them at a time, so truncate() cuts off the surplus. */
    private static void append(RepairAuction ring, String text) {
        int length = 0;
        for (int from = 0; from < text.length(); from += 20) {
            length = ring.append(four(text, from), four(text, from + 4), four(text, from + 8), four(text, from + 12),
                    four(text, from + 16));
        }
        if (text.length() % 20 != 0) {
            ring.truncate(length - 20 + text.length() % 20);
        }
    }

    private static int four(String text, int from) {
        int value = 0;
        for (int index = from; index < from + 4; index++) {
            value = value << 8 | (index < text.length() ? text.charAt(index) : 0);
        }
        return value;
    }

    /** What writeBids() writes. */
    private static String bids(RepairAuction ring) {
        StringBuilder text = new StringBuilder();
        int length = ring.writeBids();
        for (int index = 0; index < length; index++) {
            text.append((char) ring.outputByte(index));
        }
        return text.toString();
    }

    /** A set is a bit mask: bit i stands for group i. */
    private static String groups(int set) {
        StringBuilder text = new StringBuilder("groups");
        for (int group = 0; group < 10; group++) {
            if ((set >> group & 1) != 0) {
                text.append(' ').append(group);
            }
        }
        return set == 0 ? "no group" : text.toString();
    }
}
