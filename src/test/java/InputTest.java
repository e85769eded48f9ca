/** Promises 1 to 8: a new object, the input buffer, load() and its errors, find() and count(). */
final class InputTest {
    private InputTest() {
    }

    static void run() {
        newObject();
        append();
        truncate();
        load();
        loadReplacesAll();
        failedLoadChangesNothing();
        parseErrors();
        ranges();
        names();
        tooMany();
        placesThatFail();
        spacing();
        find();
        count();
    }

    private static void newObject() {
        RepairAuction x = new RepairAuction();
        for (int kind = 0; kind < 3; kind++) {
            Check.same("new: count", x.count(kind), 0);
        }
        Check.same("new: errorCode", x.errorCode(), 0);
        Check.same("new: errorPosition", x.errorPosition(), RepairAuction.NONE);
        Check.same("new: bandwidth", x.bandwidth(), 1);
        Check.same("new: nextRound", x.nextRound(), 0);
        Check.same("new: historySize", x.historySize(), 0);
        Check.same("new: undoCount", x.undoCount(), 0);
        Check.same("new: clearingPrice is the reserve price", x.clearingPrice(), 0);
        Check.same("new: rule", x.setRule(2), 0);
        Check.same("new: setBandwidth", x.setBandwidth(7), 1);
        Check.same("new: a round sells nothing", x.round(), 0);
        Check.same("new: nothing is carried", x.bandwidth(), 7);
        Check.illegal("new: the input is empty", () -> x.truncate(1));
        Check.outside("new: the output is empty", () -> x.outputByte(0));
        Check.outside("new: node", () -> x.node(0, 0));
        Check.outside("new: tenant", () -> x.tenant(0, 0));
        Check.outside("new: group", () -> x.group(0, 0));
    }

    private static void append() {
        RepairAuction x = new RepairAuction();
        for (int length = 20; length <= 1400; length += 20) {
            Check.same("append", x.append(0x20202020, 0x20202020, 0x20202020, 0x20202020, 0x20202020), length);
        }
        Check.unfit("append to 1400 bytes", () -> x.append(0, 0, 0, 0, 0));
        x.truncate(1381);
        Check.unfit("append to 1381 bytes", () -> x.append(0, 0, 0, 0, 0));
        x.truncate(1380);
        Check.same("append to 1380 bytes", x.append(0x20202020, 0x20202020, 0x20202020, 0x20202020, 0x20202099), 1400);
        Check.same("the last byte stands last", x.load(), RepairAuction.PARSE_ERROR);
        Check.same("all bytes before it are spaces", x.errorPosition(), 1399);
        Texts.load(x, Texts.SMALL);
        x.append(('n' << 24) + ('d' << 16), 0, 0, 0, 0);
        x.truncate(2);
        Check.same("the most significant byte stands first", x.find(0), 3);
    }

    private static void truncate() {
        RepairAuction x = Texts.loaded(Texts.SMALL);
        Texts.append(x, "ncxx");
        Check.illegal("truncate(5) of 4", () -> x.truncate(5));
        Check.illegal("truncate(-1)", () -> x.truncate(-1));
        Check.illegal("truncate(max)", () -> x.truncate(Integer.MAX_VALUE));
        x.truncate(4);
        x.truncate(2);
        Check.illegal("truncate(3) of 2", () -> x.truncate(3));
        Check.same("truncate keeps the first bytes", x.find(0), 2);
        x.truncate(0);
        Check.same("append after truncate(0)", x.append(0, 0, 0, 0, 0), 20);
    }

    private static void load() {
        RepairAuction x = new RepairAuction();
        Check.same("load", Texts.load(x, Texts.SMALL), 2);
        Check.same("load: errorCode", x.errorCode(), 0);
        Check.same("load: errorPosition", x.errorPosition(), RepairAuction.NONE);
        Check.same("load: undoCount", x.undoCount(), 1);
        Check.same("load: bandwidth", x.bandwidth(), 100);
        Check.same("load: clearingPrice", x.clearingPrice(), 5);
        Check.same("load: purse", x.tenant(0, 2), 0);
        Check.illegal("load empties the buffer", () -> x.truncate(1));
        Check.same("a ring alone", Texts.load(x, "ring bandwidth 99999 carry 99999 reserve 9999 price uniform;"), 0);
        Check.same("a ring alone: bandwidth", x.bandwidth(), 99999);
        Check.same("a ring alone: clearingPrice", x.clearingPrice(), 9999);
        Check.same("a ring alone: rule", x.setRule(0), 2);
        x.round();
        Check.same("a ring alone: all is carried", x.bandwidth(), 199998);
        Texts.load(x, "ring bandwidth 5 carry 0 reserve 0 price second;");
        Check.same("rule second", x.setRule(0), 1);
        x.round();
        Check.same("carry 0", x.bandwidth(), 5);
        Check.same("a group before a later node", Texts.load(x, Texts.RING
                + "node a at 500 zone 0 risk 0 room 1;node b at 600 zone 0 risk 0 room 1;tenant t income 0 most 0;"
                + "group g of t key 0 data 1 parity 1 size 1 value 1;node c at 0 zone 1 risk 0 room 1;"), 1);
        Check.same("is not placed on it", x.nodeOf(0, 0), 0);
        Check.same("is not placed on it either", x.nodeOf(0, 1), 1);
    }

    private static void loadReplacesAll() {
        RepairAuction x = Texts.loaded(Texts.SMALL);
        x.grant(0, 9000);
        x.fail(1);
        x.rounds(3);
        Texts.load(x, Texts.SMALL);
        Check.same("purses are empty", x.tenant(0, 2), 0);
        Check.same("nothing is bought", x.tenant(0, 3), 0);
        Check.same("nothing is paid", x.tenant(0, 4), 0);
        Check.same("nothing is carried", x.bandwidth(), 100);
        Check.same("the next round is 0", x.nextRound(), 0);
        Check.same("the history is empty", x.historySize(), 0);
        Check.same("the nodes are up", x.node(1, 5), 0);
        Check.same("they have always been", x.node(1, 6), 0);
        Check.same("the shards are placed anew", x.nodeOf(0, 1), 1);
    }

    private static void failedLoadChangesNothing() {
        RepairAuction x = Texts.loaded(Texts.SMALL);
        x.fail(1);
        x.round();
        Check.same("a bad text", Texts.load(x, Texts.SMALL + "group"), RepairAuction.PARSE_ERROR);
        Check.same("errorCode", x.errorCode(), 1);
        Check.same("errorPosition", x.errorPosition(), Texts.SMALL.length() + 5);
        Check.illegal("the buffer is empty", () -> x.truncate(1));
        Check.same("undoCount stays", x.undoCount(), 3);
        Check.same("nextRound stays", x.nextRound(), 1);
        Check.same("the node stays down", x.node(1, 5), 1);
        Check.same("the groups stay", x.count(2), 2);
        x.undo();
        Check.same("undo leaves the parse error's code", x.errorCode(), 1);
        Check.same("undo leaves the parse error's position", x.errorPosition(), Texts.SMALL.length() + 5);
        Texts.load(x, Texts.SMALL);
        Check.same("a good text: errorCode", x.errorCode(), 0);
        Check.same("a good text: errorPosition", x.errorPosition(), RepairAuction.NONE);
    }

    /** The text may hold one '^' in front of the token that has the error. */
    static void bad(int code, String marked) {
        RepairAuction x = new RepairAuction();
        int position = marked.indexOf('^');
        String text = marked.replace("^", "");
        Check.same("load() of " + marked, Texts.load(x, text), RepairAuction.PARSE_ERROR);
        Check.same("errorCode() of " + marked, x.errorCode(), code);
        Check.same("errorPosition() of " + marked, x.errorPosition(), position);
        Check.same("undoCount() of " + marked, x.undoCount(), 0);
    }

    private static void parseErrors() {
        bad(1, "^");
        bad(1, "  \n ^");
        bad(1, "^;");
        bad(1, "^node a at 0 zone 0 risk 0 room 1;");
        bad(1, "^Ring bandwidth 1 carry 0 reserve 0 price first;");
        bad(1, "^rings bandwidth 1 carry 0 reserve 0 price first;");
        bad(1, "^ringbandwidth 1 carry 0 reserve 0 price first;");
        bad(1, "ring ^carry 0 bandwidth 1 reserve 0 price first;");
        bad(1, "ring bandwidth ^one carry 0 reserve 0 price first;");
        bad(1, "ring bandwidth ^-1 carry 0 reserve 0 price first;");
        bad(1, "ring bandwidth 1 carry 0 reserve 0 price ^third;");
        bad(1, "ring bandwidth 1 carry 0 reserve 0 price ^1;");
        bad(1, "ring bandwidth 1 carry 0 reserve 0 price ^;");
        bad(1, "ring bandwidth 1 carry 0 reserve 0 price first^");
        bad(1, "ring bandwidth 1 carry 0 reserve 0 price first  ^");
        bad(1, "ring bandwidth 1 carry 0 reserve 0 price first^: ;");
        bad(1, "ring bandwidth 1 carry 0 reserve 0 price first ^second;");
        bad(1, Texts.RING + "^;");
        bad(1, Texts.RING + "^" + Texts.RING);
        bad(1, Texts.RING + "^0");
        bad(1, Texts.RING + "^\u00ff");
        bad(1, Texts.RING + "^\t");
        bad(1, Texts.RING + "^nodes a at 0 zone 0 risk 0 room 1;");
        bad(1, Texts.RING + "node a at 0 zone 0 risk 0 room 1 ^5;");
        bad(1, Texts.RING + "node a ^zone 0 at 0 risk 0 room 1;");
        bad(1, Texts.RING + "node a at 0 zone 0 risk 0 ^;");
        bad(1, Texts.RING + "tenant t income 1 most ^;");
        bad(1, Texts.RING + "tenant t income 1 most 1 ^tenant");
        bad(1, Texts.RING + "tenant t income 1 most 1;group g ^t");
        bad(1, Texts.RING + "tenant t income 1 most 1;group g of ^of");
        bad(1, Texts.RING + "tenant t income 1 most 1;group g of ^abcdefg");
        bad(1, Texts.RING + "tenant t income 1 most 1;group g of ^7");
        bad(1, Texts.RING + "tenant t income 1 most 1;group g of t key 0 data 1 parity 1 size 1 value 1^,");
    }

    private static void ranges() {
        bad(2, "ring bandwidth ^0 carry 0 reserve 0 price first;");
        bad(2, "ring bandwidth ^100000 carry 0 reserve 0 price first;");
        bad(2, "ring bandwidth 1 carry ^100000 reserve 0 price first;");
        bad(2, "ring bandwidth 1 carry 0 reserve ^10000 price first;");
        bad(2, "ring bandwidth ^4294967297 carry 0 reserve 0 price first;");
        bad(2, "ring bandwidth ^18446744073709551617 carry 0 reserve 0 price first;");
        bad(2, Texts.RING + "node a at ^10000 zone 0 risk 0 room 1;");
        bad(2, Texts.RING + "node a at 0 zone ^10 risk 0 room 1;");
        bad(2, Texts.RING + "node a at 0 zone 0 risk ^1000 room 1;");
        bad(2, Texts.RING + "node a at 0 zone 0 risk 0 room ^0;");
        bad(2, Texts.RING + "node a at 0 zone 0 risk 0 room ^51;");
        bad(2, Texts.RING + "tenant t income ^1000000 most 0;");
        bad(2, Texts.RING + "tenant t income 0 most ^1000000;");
        String tenant = Texts.RING + "tenant t income 0 most 0;group g of t key ";
        bad(2, tenant + "^10000 data 1 parity 1 size 1 value 1;");
        bad(2, tenant + "0 data ^0 parity 1 size 1 value 1;");
        bad(2, tenant + "0 data ^7 parity 1 size 1 value 1;");
        bad(2, tenant + "0 data 1 parity ^0 size 1 value 1;");
        bad(2, tenant + "0 data 1 parity ^5 size 1 value 1;");
        bad(2, tenant + "0 data 1 parity 1 size ^0 value 1;");
        bad(2, tenant + "0 data 1 parity 1 size ^101 value 1;");
        bad(2, tenant + "0 data 1 parity 1 size 1 value ^0;");
        bad(2, tenant + "0 data 1 parity 1 size 1 value ^10000;");
        StringBuilder text = new StringBuilder("ring bandwidth 000000000000000000000001 carry 0 reserve 0 price first;");
        for (int i = 0; i < 10; i++) {
            text.append("node ").append((char) ('a' + i)).append(" at ").append(9999 - i);
            text.append(" zone 9 risk 999 room 50;");
        }
        text.append("tenant t income 999999 most 999999;");
        text.append("group g of t key 9999 data 6 parity 4 size 100 value 9999;");
        text.append("group h of t key 0 data 1 parity 1 size 1 value 1;");
        RepairAuction x = Texts.loaded(text.toString());
        Check.same("leading zeros", x.bandwidth(), 1);
        Check.same("the greatest income", x.tenant(0, 0), 999999);
        Check.same("the greatest purse", x.tenant(0, 1), 999999);
        Check.same("the greatest position", x.node(0, 0), 9999);
        Check.same("the greatest zone", x.node(0, 1), 9);
        Check.same("the greatest risk", x.node(0, 2), 999);
        Check.same("the greatest room", x.node(0, 3), 50);
        Check.same("the greatest key", x.group(0, 1), 9999);
        Check.same("the greatest data", x.group(0, 2), 6);
        Check.same("the greatest parity", x.group(0, 3), 4);
        Check.same("the greatest size", x.group(0, 4), 100);
        Check.same("the greatest value", x.group(0, 5), 9999);
    }

    private static void names() {
        String node = Texts.RING + "node a at 5 zone 0 risk 0 room 1;";
        bad(3, node + "node ^a at 6 zone 0 risk 0 room 1;");
        bad(3, node + "node b at ^5 zone 0 risk 0 room 1;");
        bad(3, node + "node b at ^0005 zone 0 risk 0 room 1;");
        String tenant = Texts.RING + "tenant t income 0 most 0;";
        bad(3, tenant + "tenant ^t income 0 most 0;");
        bad(3, tenant + "group g of ^u");
        bad(3, Texts.SMALL + "group ^ga of ta");
        bad(3, Texts.RING + "group g of ^t");
        String[] keywords = {"ring", "carry", "price", "first", "second", "node", "at", "zone", "risk", "room",
            "tenant", "income", "most", "group", "of", "key", "data", "parity", "size", "value"};
        for (String keyword : keywords) {
            bad(1, Texts.RING + "node ^" + keyword + " at 5 zone 0 risk 0 room 1;");
            bad(1, Texts.RING + "tenant ^" + keyword + " income 0 most 0;");
            bad(1, Texts.SMALL + "group ^" + keyword + " of ta");
        }
        bad(1, Texts.RING + "node ^bandwidth at 0");
        bad(1, Texts.RING + "node ^reserve at 0");
        bad(1, Texts.RING + "node ^uniform at 0");
        bad(1, Texts.RING + "node ^abcdefg at 0");
        bad(1, Texts.RING + "node ^7 at 0");
        bad(1, Texts.RING + "node a^7 at 0");
        bad(1, Texts.RING + "node ^A at 0");
        RepairAuction x = Texts.loaded(Texts.RING
                + "node zzzzzz at 1 zone 0 risk 0 room 1;node rings at 2 zone 0 risk 0 room 1;"
                + "tenant zzzzzz income 0 most 0;group zzzzzz of zzzzzz key 0 data 1 parity 1 size 1 value 1;");
        for (int kind = 0; kind < 3; kind++) {
            Check.same("one name for things of different kinds", Texts.find(x, kind, "zzzzzz"), 0);
        }
    }

    private static String many(String first, int count, String behind) {
        StringBuilder text = new StringBuilder();
        for (int i = 0; i < count; i++) {
            text.append(first).append(' ').append((char) ('a' + i)).append(behind.replace("@", "" + i));
        }
        return text.toString();
    }

    private static void tooMany() {
        String nodes = Texts.RING + many("node", 16, " at @ zone 0 risk 0 room 9;");
        bad(4, nodes + "^node");
        bad(1, nodes + "^nodes");
        String tenants = nodes + many("tenant", 6, " income 0 most 0;");
        bad(4, tenants + "^tenant");
        String groups = tenants + many("group", 10, " of a key @ data 1 parity 1 size 1 value 1;");
        bad(4, groups + "^group k of a key 0");
        RepairAuction x = Texts.loaded(groups);
        Check.same("16 nodes", x.count(0), 16);
        Check.same("6 tenants", x.count(1), 6);
        Check.same("10 groups", x.count(2), 10);
        Check.same("the last node", x.node(15, 0), 15);
        Check.same("the last tenant's name", Texts.find(x, 1, "f"), 5);
        Check.same("the last group's key", x.group(9, 1), 9);
    }

    private static void placesThatFail() {
        String head = Texts.RING + "tenant t income 0 most 0;node a at 0 zone 0 risk 0 room 1;";
        bad(5, head + "group g of t key 0 data 1 parity 1 size 1 value 1 ^;");
        bad(5, head + "group g of t key 0 data 1 parity 1 size 1 value 1^;node b at 1 zone 0 risk 0 room 1;");
        head += "node b at 1 zone 0 risk 0 room 2;";
        Texts.loaded(head + "group g of t key 0 data 1 parity 1 size 1 value 1;");
        bad(5, head + "group g of t key 0 data 1 parity 1 size 1 value 1;"
                + "group h of t key 0 data 1 parity 1 size 1 value 1^;");
        bad(5, head + "group g of t key 0 data 1 parity 2 size 1 value 1^;");
        bad(1, head + "group g of t key 0 data 1 parity 2 size 1 value 1^.");
    }

    private static void spacing() {
        RepairAuction x = Texts.loaded("\n ring\nbandwidth 7carry 3 reserve0price first ;\n"
                + "tenant a income1most2;tenant b\nincome 3 most 4 ; \n");
        Check.same("spaces and newlines only separate", x.count(1), 2);
        Check.same("bandwidth without spaces", x.bandwidth(), 7);
        Check.same("numbers without spaces", x.tenant(0, 1), 2);
        Check.same("numbers with newlines", x.tenant(1, 0), 3);
        Check.same("no reserve", x.clearingPrice(), 0);
    }

    private static void find() {
        RepairAuction x = Texts.loaded(Texts.SMALL);
        Check.same("find node", Texts.find(x, 0, "nc"), 2);
        Check.same("find tenant", Texts.find(x, 1, "tb"), 1);
        Check.same("find group", Texts.find(x, 2, "ga"), 0);
        Check.same("find another kind's name", Texts.find(x, 2, "na"), RepairAuction.NONE);
        Check.same("find a part", Texts.find(x, 0, "n"), RepairAuction.NONE);
        Check.same("find more", Texts.find(x, 0, "nca"), RepairAuction.NONE);
        Check.same("find with a space", Texts.find(x, 0, "nc "), RepairAuction.NONE);
        Check.same("find with a space before", Texts.find(x, 0, " nc"), RepairAuction.NONE);
        Check.same("find with a letter of another sort", Texts.find(x, 0, "Nc"), RepairAuction.NONE);
        Check.same("find seven letters", Texts.find(x, 0, "aaaaanc"), RepairAuction.NONE);
        Check.same("find nothing", x.find(0), RepairAuction.NONE);
        RepairAuction a = Texts.loaded(Texts.RING + "node b at 0 zone 0 risk 0 room 1;node a at 1 zone 0 risk 0 room 1;");
        Check.same("find a", Texts.find(a, 0, "a"), 1);
        Check.same("find A", Texts.find(a, 0, "A"), RepairAuction.NONE);
        Check.same("find aaaaaaa", Texts.find(a, 0, "aaaaaaa"), RepairAuction.NONE);
        Texts.append(x, "nd");
        Check.illegal("find(3)", () -> x.find(3));
        Check.illegal("find(-1)", () -> x.find(-1));
        Check.same("the buffer stays then", x.find(0), 3);
        Check.illegal("the buffer is empty afterwards", () -> x.truncate(1));
        Texts.append(x, "nosuch");
        x.find(1);
        Check.illegal("the buffer is empty even if nothing was found", () -> x.truncate(1));
        Check.same("find is not for undo", x.undoCount(), 1);
    }

    private static void count() {
        RepairAuction x = Texts.loaded(Texts.SMALL);
        Check.same("count(0)", x.count(0), 4);
        Check.same("count(1)", x.count(1), 2);
        Check.same("count(2)", x.count(2), 2);
        Check.illegal("count(3)", () -> x.count(3));
        Check.illegal("count(-1)", () -> x.count(-1));
    }
}
