import java.util.function.ToIntFunction;

/** The edges that section 1 and promises 1 to 8 name, sentence by sentence. */
final class EdgeInputTest {
    private static final int NONE = RepairAuction.NONE;
    private static final String ONE = Texts.ring(1, 0, 0, "first");
    private static final String TENANT = Texts.tenant("t", 0, 0);
    private static final String[] KEYWORDS = {"ring", "bandwidth", "carry", "reserve", "price", "first", "second", "uniform",
        "node", "at", "zone", "risk", "room", "tenant", "income", "most", "group", "of", "key", "data", "parity", "size", "value"};

    private EdgeInputTest() {
    }

    static void run() {
        bufferOf1400();
        statements();
        words();
        numbers();
        everyByte();
        blanks();
        names();
        keywords();
        choice();
        ringStatement();
        nodeStatement();
        tenantStatement();
        groupStatement();
        numbering();
        firstError();
        errorPositions();
        codeOne();
        codeTwo();
        codeThree();
        codeFour();
        codeFive();
        constants();
        newObject();
        beforeTheFirstLoad();
        append();
        truncate();
        load();
        failedLoad();
        errorCode();
        errorPosition();
        find();
        count();
        Sentence.end();
    }

    private static void good(String text) {
        RepairAuction x = new RepairAuction();
        Check.yes("load() of " + text, Texts.load(x, text) >= 0);
        Check.same("errorCode() of " + text, x.errorCode(), 0);
    }

    /** The text holds one '^' in front of the token that has the error. */
    private static void bad(int code, String marked) {
        InputTest.bad(code, marked);
    }

    private static String padded(String text, int length) {
        return text + " ".repeat(length - text.length());
    }

    private static void bufferOf1400() {
        Sentence.of(0, "1. INPUT. The input buffer holds at most 1400 bytes.");
        RepairAuction x = new RepairAuction();
        Texts.append(x, padded(ONE, 1380));
        Check.same("append to 1380 bytes", x.append(0, 0, 0, 0, 0), 1400);
        Check.unfit("append to 1400 bytes", () -> x.append(0, 0, 0, 0, 0));
        x.truncate(1381);
        Check.unfit("append to 1381 bytes", () -> x.append(0, 0, 0, 0, 0));
        x.truncate(1380);
        Check.same("nothing else stands there", x.load(), 0);
        Texts.append(x, " ".repeat(1400 - ONE.length()) + ONE);
        Check.same("a text of 1400 bytes is read to its last one", x.load(), 0);
        Texts.append(x, padded(ONE, 1399) + "x");
        Check.same("an error in the last one of 1400 bytes", x.load(), RepairAuction.PARSE_ERROR);
        Check.same("its position", x.errorPosition(), 1399);
        Texts.append(x, padded(ONE + "node", 1400));
        Check.same("a text of 1400 bytes that ends too early", x.load(), RepairAuction.PARSE_ERROR);
        Check.same("its end", x.errorPosition(), 1400);
    }

    private static void statements() {
        Sentence.of(0, "load() parses it as a text of one or more statements; each statement ends with ';'.");
        good(ONE);
        good(ONE + TENANT);
        good(ONE + TENANT + Texts.tenant("u", 0, 0) + Texts.node("a", 0, 0, 0, 1));
        bad(1, "^");
        bad(1, ONE.substring(0, ONE.length() - 1) + "^");
        bad(1, ONE + TENANT.substring(0, TENANT.length() - 1) + "^");
        bad(1, ONE + "node a at 0 zone 0 risk 0 room 1^");
        bad(1, ONE + "node a at 0 zone 0 risk 0 room 1 ^node b at 1 zone 0 risk 0 room 1;");
        bad(1, Texts.SMALL + "group gc of ta key 0 data 1 parity 1 size 1 value 1^");
    }

    private static void words() {
        Sentence.of(0, "Tokens: a word is a maximal run of lowercase letters a-z;");
        RepairAuction x = Texts.loaded(ONE + Texts.node("azazaz", 1, 0, 0, 1));
        Check.same("a and z are letters", Texts.find(x, 0, "azazaz"), 0);
        bad(1, ONE + "^nodea at 0 zone 0 risk 0 room 1;");
        bad(1, ONE + "node ^aaaaaat 0 zone 0 risk 0 room 1;");
        bad(1, ONE + "node aat ^0 zone 0 risk 0 room 1;");
        bad(1, ONE + "node a^A at 0 zone 0 risk 0 room 1;");
        bad(1, ONE + "node z^{ at 0 zone 0 risk 0 room 1;");
        bad(1, ONE + "node a^` at 0 zone 0 risk 0 room 1;");
        bad(1, ONE + "^Node a at 0 zone 0 risk 0 room 1;");
    }

    private static void numbers() {
        Sentence.of(0, "a number is a maximal run of decimal digits;");
        RepairAuction x = Texts.loaded(Texts.ring(90909, 0, 0, "first").replace("reserve 0", "reserve 0000000000000000000009"));
        Check.same("0 and 9 are digits", x.bandwidth(), 90909);
        Check.same("a run of 22 digits is one number", x.clearingPrice(), 9);
        bad(1, "ring bandwidth 1^/ carry 0 reserve 0 price first;");
        bad(1, "ring bandwidth 1^: carry 0 reserve 0 price first;");
        bad(1, "ring bandwidth 1 ^2 carry 0 reserve 0 price first;");
        bad(2, "ring bandwidth ^999999 carry 0 reserve 0 price first;");
        bad(1, "ring bandwidth 1^.0 carry 0 reserve 0 price first;");
        bad(1, "ring bandwidth ^+1 carry 0 reserve 0 price first;");
        Check.same("digits next to words", Texts.loaded("ring bandwidth7carry 0 reserve 0 price first;").bandwidth(), 7);
    }

    private static void everyByte() {
        Sentence.of(0, "each other byte except space (32) and newline (10) is a symbol of its own.");
        for (char each = 0; each < 256; each++) {
            boolean blank = each == ' ' || each == '\n';
            boolean letter = each >= 'a' && each <= 'z';
            boolean digit = each >= '0' && each <= '9';
            answer("ring" + each + "bandwidth 1 carry 0 reserve 0 price first;", blank ? NONE : letter ? 0 : 4);
            answer("ring bandwidth 1" + each + "carry 0 reserve 0 price first;", blank || digit ? NONE : 16);
            answer(ONE + each, blank ? NONE : ONE.length());
        }
        bad(1, ONE + "^;;");
        bad(1, "ring bandwidth 1 carry 0 reserve 0 price first^:;");
        bad(1, "ring bandwidth 1 carry 0 reserve 0 price first;^;;");
    }

    private static void answer(String text, int errorPosition) {
        RepairAuction x = new RepairAuction();
        int due = errorPosition == NONE ? 0 : RepairAuction.PARSE_ERROR;
        Check.same("load() of " + text, Texts.load(x, text), due);
        Check.same("errorPosition() of " + text, x.errorPosition(), errorPosition);
        Check.same("errorCode() of " + text, x.errorCode(), errorPosition == NONE ? 0 : 1);
    }

    private static void blanks() {
        Sentence.of(0, "Spaces and newlines only separate tokens.");
        good("  \n\n " + ONE.replace(" ", " \n ") + "\n ");
        good("ring bandwidth 1carry 0reserve 0price first ;");
        good("ring\nbandwidth\n1\ncarry\n0\nreserve\n0\nprice\nfirst\n;\n");
        bad(1, "^ri ng bandwidth 1 carry 0 reserve 0 price first;");
        bad(1, "ring bandwidth 1 ^0 carry 0 reserve 0 price first;");
        bad(1, "ring bandwidth 1\n^0 carry 0 reserve 0 price first;");
        bad(1, "ring ^band\nwidth 1 carry 0 reserve 0 price first;");
    }

    private static void names() {
        Sentence.of(0, "NAME is a word of 1 to 6 letters that is not a keyword;");
        String[] names = {"a", "z", "zzzzzz", "abcdef", "rin", "rings", "a", "o", "ofa", "units", "is", "lost"};
        for (String name : names) {
            RepairAuction x = Texts.loaded(ONE + Texts.node(name, 0, 0, 0, 1) + Texts.node("other", 1, 0, 0, 1)
                    + Texts.tenant(name, 0, 0) + Texts.group(name, name, 0, 1, 1, 1, 1));
            for (int kind = 0; kind < 3; kind++) {
                Check.same("a thing with the name " + name, Texts.find(x, kind, name), 0);
            }
        }
        for (String word : new String[] {"abcdefg", "zzzzzzz", "aaaaaaaaaaaaaaaaaaaaaaaaaaaaaaaaa", "7", ";", "A"}) {
            bad(1, ONE + "node ^" + word + " at 0 zone 0 risk 0 room 1;");
            bad(1, ONE + "tenant ^" + word + " income 0 most 0;");
            bad(1, Texts.SMALL + "group ^" + word + " of ta");
            bad(1, Texts.SMALL + "group a of ^" + word + " key 0");
        }
        bad(1, ONE + "node ^");
    }

    private static void keywords() {
        Sentence.of(0, "the keywords are all other words that are written below in lowercase letters;");
        for (String keyword : KEYWORDS) {
            bad(1, ONE + "node ^" + keyword + " at 5 zone 0 risk 0 room 1;");
            bad(1, ONE + "tenant ^" + keyword + " income 0 most 0;");
            bad(1, Texts.SMALL + "group ^" + keyword + " of ta key 0");
            bad(1, Texts.SMALL + "group a of ^" + keyword + " key 0");
        }
    }

    private static void choice() {
        Sentence.of(0, "| separates a choice.", "The statements are:");
        String[] rules = {"first", "second", "uniform"};
        for (int rule = 0; rule < 3; rule++) {
            Check.same("the rule " + rules[rule], Texts.loaded(Texts.ring(1, 0, 0, rules[rule])).setRule(0), rule);
        }
        bad(1, "ring bandwidth 1 carry 0 reserve 0 price ^third;");
        bad(1, "ring bandwidth 1 carry 0 reserve 0 price ^;");
        bad(1, "ring bandwidth 1 carry 0 reserve 0 price first ^second;");
        bad(1, "ring bandwidth 1 carry 0 reserve 0 price first ^| second;");
        bad(1, "ring bandwidth 1 carry 0 reserve 0 price ^(first);");
        bad(1, "ring bandwidth 1 carry 0 reserve 0 price ^price;");
    }

    /** The number at the '@' may be all from least to greatest; got tells what became of it. */
    private static void range(String text, int least, int greatest, ToIntFunction<RepairAuction> got) {
        for (int value : new int[] {least, least + 1, greatest - 1, greatest}) {
            RepairAuction x = Texts.loaded(text.replace("@", "" + value));
            Check.same("the number " + value + " in " + text, got.applyAsInt(x), value);
        }
        Check.same("zeros in front", got.applyAsInt(Texts.loaded(text.replace("@", "00000000000" + greatest))), greatest);
        if (least > 0) {
            bad(2, text.replace("@", "^" + (least - 1)));
            bad(2, text.replace("@", "^00"));
        } else {
            Check.same("00", got.applyAsInt(Texts.loaded(text.replace("@", "00"))), 0);
        }
        bad(1, text.replace("@", "^-1"));
        bad(2, text.replace("@", "^" + (greatest + 1)));
        bad(2, text.replace("@", "^" + (greatest + 1) + "0"));
        // What an int, or a long, would take for the least value.
        bad(2, text.replace("@", "^" + ((1L << 32) + least)));
        bad(2, text.replace("@", "^" + ((1L << 31) + least)));
        bad(2, text.replace("@", "^1844674407370955161" + (6 + least)));
        bad(1, text.replace("@", "^x"));
        bad(1, text.replace("@ ", "^").replace("@", "^"));
    }

    private static void ringStatement() {
        Sentence.of(0, "ring bandwidth N carry N reserve N price (first | second | uniform)",
                "the bandwidth of a round, 1 to 99999 units;");
        range("ring bandwidth @ carry 0 reserve 0 price first;", 1, 99999, RepairAuction::bandwidth);
        bad(1, "ring ^1 carry 0 reserve 0 price first;");
        bad(1, "ring bandwidth 1 ^reserve 0 carry 0 price first;");
        bad(1, "ring bandwidth 1 carry 0 ^price first;");
        bad(1, "ring bandwidth 1 carry 0 reserve 0 ^first;");
        Sentence.of(0, "the greatest bandwidth that is carried over, 0 to 99999 units;");
        range("ring bandwidth 99999 carry @ reserve 0 price first;", 0, 99999, x -> {
            x.round();
            return x.bandwidth() - 99999;
        });
        Sentence.of(0, "the reserve price, 0 to 9999; the price rule.");
        range("ring bandwidth 1 carry 0 reserve @ price first;", 0, 9999, RepairAuction::clearingPrice);
        Sentence.of(0, "Must be the first statement, and no other statement may be one");
        bad(1, "^" + Texts.node("a", 0, 0, 0, 1) + ONE);
        bad(1, "^" + TENANT + ONE);
        bad(1, "^group g of t key 0 data 1 parity 1 size 1 value 1;" + ONE);
        bad(1, ONE + "^" + ONE);
        bad(1, ONE + TENANT + "^ring");
        bad(1, ONE + Texts.node("a", 0, 0, 0, 1) + "^" + ONE);
    }

    private static void nodeStatement() {
        Sentence.of(0, "node NAME at N zone N risk N room N", "a node: its position on the ring, 0 to 9999,");
        range(ONE + "node a at @ zone 0 risk 0 room 1;", 0, 9999, x -> x.node(0, 0));
        Sentence.of(0, "different from those of other nodes;");
        good(ONE + Texts.node("a", 0, 0, 0, 1) + Texts.node("b", 1, 0, 0, 1) + Texts.node("c", 9999, 0, 0, 1));
        bad(3, ONE + Texts.node("a", 0, 0, 0, 1) + Texts.node("b", 7, 0, 0, 1) + "node c at ^0 zone 0 risk 0 room 1;");
        bad(3, ONE + Texts.node("a", 0, 0, 0, 1) + Texts.node("b", 7, 0, 0, 1) + "node c at ^7 zone 0 risk 0 room 1;");
        bad(3, ONE + Texts.node("a", 9999, 0, 0, 1) + "node b at ^009999 zone 0 risk 0 room 1;");
        Sentence.of(0, "its zone, 0 to 9;");
        range(ONE + "node a at 0 zone @ risk 0 room 1;", 0, 9, x -> x.node(0, 1));
        Sentence.of(0, "its risk of failing in a round, 0 to 999 thousandths;");
        range(ONE + "node a at 0 zone 0 risk @ room 1;", 0, 999, x -> x.node(0, 2));
        Sentence.of(0, "how many shards it can have, 1 to 50.");
        range(ONE + "node a at 0 zone 0 risk 0 room @;", 1, 50, x -> x.node(0, 3));
        Sentence.of(0, "At most 16");
        Check.same("16 nodes", Texts.loaded(ONE + Texts.nodes(16, 0, 1)).count(0), 16);
        Check.same("15 nodes", Texts.loaded(ONE + Texts.nodes(15, 0, 1)).count(0), 15);
        bad(4, ONE + Texts.nodes(16, 0, 1) + "^" + Texts.node("q", 5, 0, 0, 1));
    }

    private static String tenants(int count) {
        StringBuilder text = new StringBuilder();
        for (int tenant = 0; tenant < count; tenant++) {
            text.append(Texts.tenant("" + (char) ('t' + tenant), tenant, tenant));
        }
        return text.toString();
    }

    private static String groups(int count) {
        StringBuilder text = new StringBuilder();
        for (int group = 0; group < count; group++) {
            text.append(Texts.group("" + (char) ('g' + group), "t", group, 1, 1, 1, 1));
        }
        return text.toString();
    }

    private static void tenantStatement() {
        Sentence.of(0, "tenant NAME income N most N", "a tenant: credits in each round, 0 to 999999;");
        range(ONE + "tenant t income @ most 7;", 0, 999999, x -> x.tenant(0, 0));
        Sentence.of(0, "the greatest purse, 0 to 999999.");
        range(ONE + "tenant t income 7 most @;", 0, 999999, x -> x.tenant(0, 1));
        Sentence.of(0, "At most 6");
        Check.same("6 tenants", Texts.loaded(ONE + tenants(6)).count(1), 6);
        Check.same("5 tenants", Texts.loaded(ONE + tenants(5)).count(1), 5);
        bad(4, ONE + tenants(6) + "^" + Texts.tenant("a", 0, 0));
    }

    private static void groupStatement() {
        Sentence.of(0, "group NAME of NAME key N data N parity N size N value N", "a group of a tenant of an earlier statement:");
        good(Texts.SMALL + Texts.group("gc", "tb", 0, 1, 1, 1, 1));
        bad(3, ONE + Texts.FOUR + "group g of ^t key 0 data 1 parity 1 size 1 value 1;" + TENANT);
        bad(3, Texts.SMALL + "group gc of ^tc key 0 data 1 parity 1 size 1 value 1;" + Texts.tenant("tc", 0, 0));
        String head = ONE + Texts.nodes(10, 0, 50) + TENANT + "group g of t ";
        Sentence.of(0, "its key, 0 to 9999;");
        range(head + "key @ data 1 parity 1 size 1 value 1;", 0, 9999, x -> x.group(0, 1));
        Sentence.of(0, "the number of data shards, 1 to 6;");
        range(head + "key 0 data @ parity 1 size 1 value 1;", 1, 6, x -> x.group(0, 2));
        Sentence.of(0, "the number of parity shards, 1 to 4;");
        range(head + "key 0 data 1 parity @ size 1 value 1;", 1, 4, x -> x.group(0, 3));
        Sentence.of(0, "the size of a shard, 1 to 100;");
        range(head + "key 0 data 1 parity 1 size @ value 1;", 1, 100, x -> x.group(0, 4));
        Sentence.of(0, "its value, 1 to 9999.");
        range(head + "key 0 data 1 parity 1 size 1 value @;", 1, 9999, x -> x.group(0, 5));
        Sentence.of(0, "At most 10");
        Check.same("10 groups", Texts.loaded(ONE + Texts.FOUR + TENANT + groups(10)).count(2), 10);
        Check.same("9 groups", Texts.loaded(ONE + Texts.FOUR + TENANT + groups(9)).count(2), 9);
        bad(4, ONE + Texts.FOUR + TENANT + groups(10) + "^" + Texts.group("a", "t", 0, 1, 1, 1, 1));
    }

    private static void numbering() {
        Sentence.of(0, "Nodes, tenants and groups are numbered from 0 each.");
        RepairAuction x = Texts.loaded(ONE + Texts.nodes(16, 0, 50) + tenants(6) + groups(10));
        Check.same("the first node", Texts.find(x, 0, "a"), 0);
        Check.same("the last node", Texts.find(x, 0, "p"), 15);
        Check.same("the first tenant", Texts.find(x, 1, "t"), 0);
        Check.same("the last tenant", Texts.find(x, 1, "y"), 5);
        Check.same("the first group", Texts.find(x, 2, "g"), 0);
        Check.same("the last group", Texts.find(x, 2, "p"), 9);
        RepairAuction mixed = Texts.loaded(ONE + Texts.node("a", 0, 0, 0, 9) + TENANT + Texts.node("b", 1, 0, 0, 9)
                + Texts.group("g", "t", 0, 1, 1, 1, 1) + Texts.tenant("u", 0, 0) + Texts.node("c", 2, 0, 0, 9)
                + Texts.group("h", "u", 0, 1, 1, 1, 1));
        Check.same("each kind has its own numbers: nodes", Texts.find(mixed, 0, "c"), 2);
        Check.same("each kind has its own numbers: tenants", Texts.find(mixed, 1, "u"), 1);
        Check.same("each kind has its own numbers: groups", Texts.find(mixed, 2, "h"), 1);
        Sentence.of(0, "Things of different kinds may have the same name.");
        RepairAuction same = Texts.loaded(ONE + Texts.node("a", 0, 0, 0, 9) + Texts.node("b", 1, 0, 0, 9)
                + Texts.tenant("b", 0, 0) + Texts.tenant("a", 0, 0) + Texts.group("a", "a", 0, 1, 1, 1, 1));
        Check.same("the tenant of a name", Texts.find(same, 1, "a"), 1);
        Check.same("the group of this name", Texts.find(same, 2, "a"), 0);
        Check.same("its tenant", same.group(0, 0), 1);
    }

    private static void firstError() {
        Sentence.of(0, "The parser reads tokens from left to right and stops at the first token that has an error;");
        bad(2, "ring bandwidth ^0 carry x reserve 0 price first;");
        bad(1, "ring bandwidth ^x carry 100000 reserve 0 price first;");
        bad(2, ONE + "node a at ^10000 zone 10 risk 0 room 0;node a at 0");
        bad(3, ONE + TENANT + "tenant ^t income 1000000 most 0;;");
        bad(4, ONE + tenants(6) + "^tenant tenant;");
        bad(5, ONE + TENANT + "group g of t key 0 data 1 parity 1 size 1 value 1^;;");
        bad(2, ONE + TENANT + "group g of t key 0 data 1 parity 1 size 1 value ^0;");
        Sentence.of(0, "if that token has several errors, the smallest code counts.");
        bad(1, ONE + "group g of ^of key 0");
        bad(1, ONE + "group g of ^abcdefg key 0");
        bad(1, ONE + TENANT + "group g of ^ring key 0");
        bad(1, Texts.SMALL + "group gc of ta key 0 data 6 parity 4 size 1 value 1^,");
        bad(1, Texts.SMALL + "group gc of ta key 0 data 6 parity 4 size 1 value 1^");
    }

    private static void errorPositions() {
        Sentence.of(0, "The error position is the offset of the token's first byte;");
        bad(1, "^rung");
        bad(1, "\n\n  ^rung");
        bad(2, "ring   bandwidth\n\n  ^000100000  carry");
        bad(1, "ring bandwidth 1 carry 0 reserve 0 price ^uniformly;");
        bad(3, ONE + TENANT + "tenant   ^t");
        bad(5, ONE + TENANT + "group g of t key 0 data 1 parity 1 size 1 value 1\n ^;");
        Sentence.of(0, "for the end of the text it is the text's length.");
        bad(1, "ring^");
        bad(1, "ring  \n^");
        bad(1, "ring bandwidth 1^");
        bad(1, " \n ^");
        bad(1, ONE + "node a^");
    }

    private static void codeOne() {
        Sentence.of(0, "Codes: 1 the token cannot stand here (also the end of an empty text)");
        bad(1, "^");
        bad(1, ONE + "^at");
        bad(1, ONE + "^first");
        bad(1, ONE + "node a ^zone");
        bad(1, ONE + "node a at 0 zone 0 ^room 1;");
        bad(1, ONE + "node a at 0 ^; zone 0 risk 0 room 1;");
        bad(1, ONE + "tenant t ^most 0;");
        bad(1, ONE + "tenant t income 0 ^;");
        bad(1, ONE + TENANT + "group g ^key 0");
        bad(1, ONE + TENANT + "group g of t ^data 1");
        bad(1, ONE + TENANT + "group g of t key 0 ^parity 1");
        bad(1, ONE + TENANT + "group g of t key 0 data 1 ^size 1");
        bad(1, ONE + TENANT + "group g of t key 0 data 1 parity 1 ^value 1");
        bad(1, ONE + TENANT + "group g of t key 0 data 1 parity 1 size 1 ^;");
    }

    private static void codeTwo() {
        Sentence.of(0, "2 a number is out of range");
        bad(2, "ring bandwidth ^0");
        bad(2, "ring bandwidth ^100000");
        bad(2, "ring bandwidth 99999 carry 99999 reserve ^10000");
        bad(2, ONE + Texts.node("a", 9999, 0, 0, 1) + "node b at ^10000");
        bad(2, "ring bandwidth ^" + "9".repeat(300));
        bad(2, "ring bandwidth ^" + "0".repeat(300));
    }

    private static void codeThree() {
        Sentence.of(0, "3 the NAME of a node, tenant or group statement that a thing of this kind already has;");
        bad(3, ONE + Texts.node("a", 0, 0, 0, 1) + Texts.node("b", 1, 0, 0, 1) + "node ^a at 2");
        bad(3, ONE + Texts.node("a", 0, 0, 0, 1) + Texts.node("b", 1, 0, 0, 1) + "node ^b at 2");
        bad(3, ONE + TENANT + Texts.tenant("u", 0, 0) + "tenant ^u income 0");
        bad(3, ONE + TENANT + Texts.tenant("u", 0, 0) + "tenant ^t income 0");
        bad(3, Texts.SMALL + "group ^ga of ta");
        bad(3, Texts.SMALL + "group ^gb");
        good(ONE + Texts.node("a", 0, 0, 0, 1) + Texts.node("aa", 1, 0, 0, 1) + Texts.node("b", 2, 0, 0, 1));
        Sentence.of(0, "the NAME behind of that no tenant has;");
        bad(3, ONE + "group g of ^g key 0");
        bad(3, Texts.SMALL + "group gc of ^na key 0");
        bad(3, Texts.SMALL + "group gc of ^ga key 0");
        bad(3, Texts.SMALL + "group gc of ^tc key 0");
        bad(3, Texts.SMALL + "group gc of ^t");
        Sentence.of(0, "the position of a node that another node has");
        bad(3, ONE + Texts.node("a", 0, 0, 0, 1) + "node b at ^0");
        bad(3, ONE + Texts.nodes(15, 0, 1) + "node p at ^140");
        good(ONE + Texts.nodes(15, 0, 1) + Texts.node("p", 141, 0, 0, 1));
    }

    private static void codeFour() {
        Sentence.of(0, "4 the first word of a 17th node, seventh tenant or eleventh group statement");
        bad(4, ONE + Texts.nodes(16, 0, 1) + " ^node");
        bad(4, ONE + Texts.nodes(16, 0, 1) + "^node node node");
        bad(1, ONE + Texts.nodes(16, 0, 1) + "^nod");
        bad(4, ONE + tenants(6) + "^tenant t");
        bad(4, ONE + Texts.FOUR + TENANT + groups(10) + "^group g of nobody");
        for (String word : new String[] {"groups", "grou", "at", ";", "5", "ring"}) {
            bad(1, ONE + Texts.FOUR + TENANT + groups(10) + "^" + word);
            bad(1, ONE + tenants(6) + "^" + word);
            bad(1, ONE + Texts.nodes(16, 0, 1) + "^" + word);
        }
        String all = ONE + Texts.nodes(16, 0, 1) + tenants(6);
        good(all + Texts.group("g", "t", 0, 1, 1, 1, 1));
        bad(4, all + "^node");
        bad(4, all + "^tenant");
    }

    private static void codeFive() {
        Sentence.of(0, "5 the ';' of a group statement if its shards cannot be placed (section 2)");
        String nine = ONE + Texts.nodes(9, 0, 50) + TENANT;
        good(ONE + Texts.nodes(10, 0, 1) + TENANT + Texts.group("g", "t", 0, 6, 4, 1, 1));
        bad(5, nine + "group g of t key 0 data 6 parity 4 size 1 value 1^;");
        good(nine + Texts.group("g", "t", 0, 6, 3, 1, 1));
        bad(5, ONE + TENANT + "group g of t key 0 data 1 parity 1 size 1 value 1^;" + Texts.FOUR);
        bad(5, ONE + Texts.node("a", 0, 0, 0, 50) + TENANT + "group g of t key 0 data 1 parity 1 size 1 value 1^;");
        String full = ONE + Texts.node("a", 0, 0, 0, 2) + Texts.node("b", 1, 0, 0, 3) + TENANT
                + Texts.group("g", "t", 0, 1, 1, 1, 1) + Texts.group("h", "t", 0, 1, 1, 1, 1);
        good(full);
        bad(5, full + "group i of t key 0 data 1 parity 1 size 1 value 1^;");
        good(full + Texts.node("c", 2, 0, 0, 1) + Texts.group("i", "t", 0, 1, 1, 1, 1));
    }

    private static void constants() {
        Sentence.of(0, "The constants: `NONE = -1`: No such value.");
        Check.same("NONE", RepairAuction.NONE, -1);
        Check.same("no such node", new RepairAuction().nodeFrom(0), -1);
        Sentence.of(0, "`PARSE_ERROR = -4`: The text has a parse error.");
        Check.same("PARSE_ERROR", RepairAuction.PARSE_ERROR, -4);
        Check.same("load() of an empty text", new RepairAuction().load(), -4);
    }

    private static void newObject() {
        Sentence.of(1, "Creates a ring without nodes, with empty buffers.");
        RepairAuction x = new RepairAuction();
        Check.same("nodes", x.count(0), 0);
        Check.same("input", Texts.inputLength(x), 0);
        Check.same("output", Texts.written(x), "");
        Check.same("worstNode", x.worstNode(), NONE);
    }

    private static void beforeTheFirstLoad() {
        Sentence.of(0, "Before the first successful load() there are no nodes, tenants and groups, the bandwidth is 1, "
                + "the carry and the reserve price are 0, and the rule is first.");
        RepairAuction failed = new RepairAuction();
        Texts.load(failed, "ring bandwidth 7 carry 7 reserve 7 price uniform;" + Texts.FOUR + TENANT + "x");
        RepairAuction undone = Texts.loaded(Texts.SMALL);
        undone.undo();
        for (RepairAuction x : new RepairAuction[] {new RepairAuction(), failed, undone}) {
            for (int kind = 0; kind < 3; kind++) {
                Check.same("count", x.count(kind), 0);
            }
            Check.same("bandwidth", x.bandwidth(), 1);
            Check.same("reserve price", x.clearingPrice(), 0);
            Check.same("a round sells nothing", x.round(), 0);
            Check.same("carry", x.bandwidth(), 1);
            Check.same("the round's clearing price", x.history(0, 2), 0);
            Check.same("rule", x.setRule(1), 0);
            Check.same("damaged", x.damaged(), 0);
        }
    }

    private static void append() {
        Sentence.of(2, "Appends 20 bytes to the input buffer: the four bytes of each parameter, most significant byte first.");
        RepairAuction x = new RepairAuction();
        Texts.append(x, ONE.substring(0, 40));
        Check.same("the ring's text behind that", ONE.substring(40), " first;");
        x.append((' ' << 24) + ('f' << 16) + ('i' << 8) + 'r', ('s' << 24) + ('t' << 16) + (';' << 8) + ' ', 0x200a200a, 0x20202020,
                0x2020200a);
        Check.same("it can be read", x.load(), 0);
        Texts.append(x, ONE);
        x.truncate(ONE.length());
        x.append(0x20202020, 0x20202020, 0x20202020, 0x20202020, 0x202020ff);
        Check.same("the last byte is 255", x.load(), RepairAuction.PARSE_ERROR);
        Check.same("and stands last", x.errorPosition(), ONE.length() + 19);
        Texts.append(x, ONE);
        x.append(0x80000000, -1, -1, -1, -1);
        Check.same("the sign is a bit like others", x.load(), RepairAuction.PARSE_ERROR);
        Check.same("the first byte is 128", x.errorPosition(), ONE.length());
        Sentence.of(2, "Returns the new length of the buffer.");
        RepairAuction y = new RepairAuction();
        for (int length = 20; length <= 1400; length += 20) {
            Check.same("append", y.append(0, 0, 0, 0, 0), length);
        }
        y.truncate(1);
        Check.same("append to one byte", y.append(0, 0, 0, 0, 0), 21);
        Sentence.of(2, "Throws `IllegalStateException` if the buffer would hold more than 1400 bytes");
        y.truncate(0);
        Texts.append(y, padded(ONE, 1399));
        Check.unfit("append to 1399 bytes", () -> y.append(-1, -1, -1, -1, -1));
        y.truncate(1381);
        Check.unfit("append to 1381 bytes", () -> y.append(-1, -1, -1, -1, -1));
        Check.same("the length is as it was", Texts.inputLength(y), 1381);
        Check.same("so are the bytes", y.load(), 0);
    }

    private static void truncate() {
        Sentence.of(3, "Cuts the input buffer to its first length bytes.");
        RepairAuction x = Texts.loaded(Texts.SMALL);
        Texts.append(x, "ndx");
        x.truncate(2);
        Check.same("the first bytes stay", x.find(0), 3);
        Sentence.of(3, "- `length`: the new length, 0 to the current length");
        Texts.append(x, "nd");
        Check.illegal("truncate(3) of 2", () -> x.truncate(3));
        Check.illegal("truncate(-1)", () -> x.truncate(-1));
        x.truncate(2);
        Check.same("the current length", x.find(0), 3);
        Texts.append(x, "nd");
        x.truncate(0);
        Check.same("length 0", Texts.inputLength(x), 0);
        x.truncate(0);
        Check.illegal("truncate(1) of 0", () -> x.truncate(1));
        Texts.append(x, " ".repeat(1400));
        Check.illegal("truncate(1401) of 1400", () -> x.truncate(1401));
        x.truncate(1400);
        Check.same("length 1400", Texts.inputLength(x), 1400);
    }

    private static void load() {
        Sentence.of(4, "Parses the input buffer and empties it.");
        RepairAuction x = new RepairAuction();
        Texts.load(x, ONE);
        Check.same("the buffer behind a text", Texts.inputLength(x), 0);
        Texts.load(x, "no text");
        Check.same("the buffer behind a bad text", Texts.inputLength(x), 0);
        Sentence.of(4, "On success everything is that of the text: purses are empty, no bandwidth is carried over, the next round is round 0.");
        Texts.load(x, Texts.SMALL);
        x.grant(0, 999999);
        x.fail(0);
        x.drain(2, true);
        x.fail(1);
        x.setRisk(3, 999);
        x.rounds(41);
        Texts.load(x, Texts.SMALL);
        RepairAuction fresh = Texts.loaded(Texts.SMALL);
        for (int tenant = 0; tenant < 2; tenant++) {
            Check.same("purse", x.tenant(tenant, 2), 0);
            Check.same("bought", x.tenant(tenant, 3), 0);
            Check.same("paid", x.tenant(tenant, 4), 0);
        }
        Check.same("nothing is carried", x.bandwidth(), 100);
        Check.same("the next round", x.nextRound(), 0);
        Check.same("the history", x.historySize(), 0);
        Check.same("all else is as on a new object", Texts.state(x), Texts.state(fresh));
        Sentence.of(4, "Returns the number of groups;");
        Check.same("no group", Texts.load(x, ONE), 0);
        Check.same("one group", Texts.load(x, ONE + Texts.FOUR + TENANT + groups(1)), 1);
        Check.same("ten groups", Texts.load(x, ONE + Texts.FOUR + TENANT + groups(10)), 10);
    }

    private static void failedLoad() {
        Sentence.of(4, "PARSE_ERROR if there is a parse error (then only the buffer and the parse error change).");
        RepairAuction x = RangeTest.make(1);
        RepairAuction y = RangeTest.make(1);
        x.truncate(0);
        Check.same("a bad text, the last byte of which is wrong", Texts.load(x, Texts.RING + Texts.FOUR + TENANT + "x"),
                RepairAuction.PARSE_ERROR);
        int length = (Texts.RING + Texts.FOUR + TENANT).length();
        Check.same("errorPosition", x.errorPosition(), length);
        y.truncate(0);
        Texts.load(y, " ".repeat(length));
        Check.same("nothing else has changed", Texts.everything(x), Texts.everything(y));
    }

    private static void errorCode() {
        Sentence.of(5, "Returns the code of the parse error of the last load(); 0 if it had none or there was no load().");
        RepairAuction x = new RepairAuction();
        Check.same("no load()", x.errorCode(), 0);
        String[] texts = {"", "ring bandwidth 0", ONE + "group g of g", ONE + tenants(6) + "tenant",
            ONE + TENANT + Texts.group("g", "t", 0, 1, 1, 1, 1)};
        for (int code = 1; code <= 5; code++) {
            Texts.load(x, texts[code - 1]);
            Check.same("code " + code, x.errorCode(), code);
        }
        Texts.load(x, ONE);
        Check.same("no error", x.errorCode(), 0);
        Texts.load(x, "ring 1");
        x.round();
        x.undo();
        Check.same("the last load() had one", x.errorCode(), 1);
    }

    private static void errorPosition() {
        Sentence.of(6, "Returns the position of the parse error of the last load(); NONE if it had none or there was no load().");
        RepairAuction x = new RepairAuction();
        Check.same("no load()", x.errorPosition(), NONE);
        Texts.load(x, "");
        Check.same("position 0", x.errorPosition(), 0);
        Texts.load(x, ONE);
        Check.same("no error", x.errorPosition(), NONE);
        Texts.load(x, " ".repeat(1400));
        Check.same("the last position that there can be", x.errorPosition(), 1400);
        Texts.load(x, "ring ring");
        Check.same("the last load() counts", x.errorPosition(), 5);
    }

    private static void find() {
        Sentence.of(7, "Finds a thing whose name is the whole content of the input buffer.", "Returns its number; NONE if there is none.");
        RepairAuction x = Texts.loaded(ONE + Texts.node("abcdef", 0, 0, 0, 9) + Texts.node("b", 1, 0, 0, 9) + Texts.tenant("c", 0, 0)
                + Texts.group("b", "c", 0, 1, 1, 1, 1));
        Check.same("six letters", Texts.find(x, 0, "abcdef"), 0);
        Check.same("one letter", Texts.find(x, 0, "b"), 1);
        for (String text : new String[] {"", "abcdefa", "aabcdef", "abcde", "bcdef", " b", "b ", "b\n", "bb", "B", "b;", "\0b", "b\0", "node", "0"}) {
            Check.same("find " + text, Texts.find(x, 0, text), NONE);
        }
        RepairAuction a = Texts.loaded(ONE + Texts.node("a", 0, 0, 0, 9));
        for (String text : new String[] {"A", "`", "{", "\0", "aa", "aaaaaaa", "\u00ff"}) {
            Check.same("find " + text, Texts.find(a, 0, text), NONE);
        }
        Check.same("find a", Texts.find(a, 0, "a"), 0);
        for (char other = 0; other < 256; other++) {
            RepairAuction ca = Texts.loaded(ONE + Texts.node("ca", 0, 0, 0, 9));
            Check.same("find b and byte " + (int) other, Texts.find(ca, 0, "b" + other), NONE);
            Check.same("find c and byte " + (int) other, Texts.find(ca, 0, "c" + other), other == 'a' ? 0 : NONE);
        }
        Check.same("find in an empty ring", Texts.find(new RepairAuction(), 0, "b"), NONE);
        Check.same("nothing in an empty ring", new RepairAuction().find(2), NONE);
        Sentence.of(7, "The buffer is empty afterwards.");
        Texts.append(x, "b");
        Check.same("found", x.find(0), 1);
        Check.same("the buffer", Texts.inputLength(x), 0);
        Texts.append(x, "x".repeat(1400));
        Check.same("not found", x.find(0), NONE);
        Check.same("the buffer then", Texts.inputLength(x), 0);
        Sentence.of(7, "- `kind`: 0 node; 1 tenant; 2 group");
        Check.same("a node", Texts.find(x, 0, "b"), 1);
        Check.same("no tenant", Texts.find(x, 1, "b"), NONE);
        Check.same("a group", Texts.find(x, 2, "b"), 0);
        Check.same("a tenant", Texts.find(x, 1, "c"), 0);
        Check.same("no node", Texts.find(x, 0, "c"), NONE);
        Check.same("no group", Texts.find(x, 2, "c"), NONE);
        Sentence.of(7, "Throws `IllegalArgumentException` if kind is out of range (the buffer stays then)");
        Texts.append(x, "b");
        Check.illegal("find(-1)", () -> x.find(-1));
        Check.illegal("find(3)", () -> x.find(3));
        Check.same("the buffer stays", Texts.inputLength(x), 1);
        Check.same("with its byte", x.find(2), 0);
    }

    private static void count() {
        Sentence.of(8, "- `kind`: 0 node; 1 tenant; 2 group", "Returns how many there are.");
        RepairAuction x = new RepairAuction();
        int[][] counts = {{0, 0, 0}, {4, 2, 2}, {16, 6, 10}};
        String[] texts = {ONE, Texts.SMALL, ONE + Texts.nodes(16, 0, 50) + tenants(6) + groups(10)};
        for (int i = 0; i < texts.length; i++) {
            Texts.load(x, texts[i]);
            for (int kind = 0; kind < 3; kind++) {
                Check.same("count(" + kind + ")", x.count(kind), counts[i][kind]);
            }
        }
        Check.illegal("count(-1)", () -> x.count(-1));
        Check.illegal("count(3)", () -> x.count(3));
    }
}
