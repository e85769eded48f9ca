import java.lang.reflect.InvocationTargetException;
import java.lang.reflect.Method;
import java.util.ArrayList;
import java.util.Arrays;
import java.util.List;
import java.util.NoSuchElementException;

/**
 * Each call with each combination of the least and the greatest value of its parameters and those
 * just outside, on an object without anything, one with some things and one that is full: the call
 * is refused with the exception that is due, and then changes nothing, or it is not refused.
 */
final class RangeTest {
    /** A promise, its method, and for each parameter what must exist, or the range of the value. */
    private static final String[] CALLS = {"3 truncate input", "7 find 0..2", "8 count 0..2", "9 node n 0..6", "10 groupsOn n",
        "11 nodeFrom 0..9999", "12 clockwise n n", "13 zoneShards 0..9", "14 tenant t 0..4", "15 share t",
        "16 group g 0..8", "17 nodeOf g s", "18 missing g", "19 zonesOf g", "22 loss g", "23 lossWithout g n",
        "26 offer g", "27 bids g", "28 target g", "29 bidder 0..2147483647", "30 outcome g 0..1", "34 fail n",
        "35 recover n", "36 drain n boolean", "38 rounds 1..100", "39 setRisk n 0..999", "40 setBandwidth 1..99999",
        "41 setRule 0..2", "42 grant t 1..999999", "43 move g s n", "44 lostBy nodes", "47 roundsToRepair g",
        "49 soldIn 0..300", "50 purseAfter t 0..300", "53 history h 0..4", "54 meanPrice 1..40", "60 outputByte output"};

    private static final String INDEX = "IndexOutOfBoundsException";
    private static final String ARGUMENT = "IllegalArgumentException";

    private final int fixture;
    private final Method method;
    private final String[] roles;
    private final String untouched;

    private RangeTest(int fixture, Method method, String[] roles, String untouched) {
        this.fixture = fixture;
        this.method = method;
        this.roles = roles;
        this.untouched = untouched;
    }

    static void run() throws ReflectiveOperationException {
        Sentence.of(0, "EXCEPTIONS. A node, tenant, group, shard or recorded round that does not exist causes an IndexOutOfBoundsException;",
                "another value that is out of range causes an IllegalArgumentException.",
                "If several exceptions apply, the one that is named first in the method's throws clause is thrown.",
                "A call that throws changes nothing.");
        for (int fixture = 0; fixture < 3; fixture++) {
            String untouched = Texts.everything(make(fixture));
            Check.same("two objects with the same calls", Texts.everything(make(fixture)), untouched);
            for (String line : CALLS) {
                String[] words = line.split(" ");
                Method method = method(words[1]);
                new RangeTest(fixture, method, Arrays.copyOfRange(words, 2, words.length), untouched).play();
            }
        }
        for (String line : CALLS) {
            quote(Integer.parseInt(line.split(" ")[0]), line);
        }
        Sentence.end();
    }

    private static Method method(String name) {
        for (Method each : RepairAuction.class.getDeclaredMethods()) {
            if (each.getName().equals(name)) {
                return each;
            }
        }
        throw new IllegalStateException(name);
    }

    /** The sentences that are told by the ranges alone, with a check of both ends for each call. */
    private static void quote(int promise, String line) {
        for (String exception : new String[] {INDEX, ARGUMENT}) {
            for (String sentence : Sentence.all(promise, "Throws `" + exception + "`[^`]*?(?= Throws| $)")) {
                Sentence.of(promise, sentence.trim());
                boolean index = line.matches(".* ([ntgsh]|output)( .*)?");
                Check.yes("the table's line «" + line + "»", exception == INDEX ? index : line.contains("..") || line.matches(".*(input|nodes)"));
            }
        }
        for (String sentence : Sentence.all(promise, "- `(node|tenant|group|shard|other)`:[^`]*?(?= -| Returns| Throws)")) {
            Sentence.of(promise, sentence.trim());
            Check.yes("the table's line «" + line + "»", line.matches(".* [ntgs]( .*)?"));
        }
    }

    /** An object without anything, one with some things, or one that is full. */
    static RepairAuction make(int fixture) {
        RepairAuction x = new RepairAuction();
        if (fixture == 1) {
            Texts.load(x, Texts.SMALL);
            x.fail(1);
            x.grant(0, 30000);
            x.round();
            x.writeBids();
            Texts.load(x, "ring 5");
            Texts.append(x, "nb");
        } else if (fixture == 2) {
            Check.same("a full text", Texts.load(x, full()), 10);
            x.fail(0);
            x.rounds(45);
            x.setRule(2);
            x.fail(1);
            x.drain(9, true);
            x.setBandwidth(50);
            x.grant(0, 999999);
            x.round();
            x.fail(2);
            x.writeBids();
            Texts.append(x, "b" + " ".repeat(1399));
            Check.same("a full input buffer", Texts.inputLength(x), 1400);
            Check.same("a full history", x.historySize(), 40);
            Check.same("as many calls as undo() keeps", x.undoCount(), 8);
        }
        return x;
    }

    /** A text with as many nodes, tenants and groups as there may be. */
    private static String full() {
        StringBuilder text = new StringBuilder("ring bandwidth 99999 carry 7 reserve 3 price first;");
        for (int node = 0; node < 16; node++) {
            text.append("node ").append((char) ('a' + node)).append(" at ").append(node).append(" zone 0 risk 9 room 50;");
        }
        for (int tenant = 0; tenant < 6; tenant++) {
            text.append("tenant ").append((char) ('a' + tenant)).append(" income 9 most 9;");
        }
        for (int group = 0; group < 10; group++) {
            text.append("group ").append((char) ('a' + group)).append(" of ").append((char) ('a' + group % 6));
            text.append(" key 0 data 6 parity 4 size 9 value 999;");
        }
        return text.toString();
    }

    private void play() throws ReflectiveOperationException {
        combine(new ArrayList<>());
    }

    private void combine(List<Object> chosen) throws ReflectiveOperationException {
        if (chosen.size() == roles.length) {
            call(chosen.toArray());
            return;
        }
        for (Object value : values(roles[chosen.size()], chosen)) {
            List<Object> more = new ArrayList<>(chosen);
            more.add(value);
            combine(more);
        }
    }

    private Object[] values(String role, List<Object> chosen) {
        if (role.equals("boolean")) {
            return new Object[] {true, false};
        }
        long[] range = range(make(fixture), role, chosen);
        List<Object> values = new ArrayList<>();
        for (long value : new long[] {Integer.MIN_VALUE, range[0] - 1, range[0], range[1], range[1] + 1, Integer.MAX_VALUE}) {
            boolean isInt = value >= Integer.MIN_VALUE && value <= Integer.MAX_VALUE;
            if (isInt && !values.contains((int) value)) {
                values.add((int) value);
            }
        }
        return values.toArray();
    }

    /** The least and the greatest value that a parameter may have; 0 and -1 if it may have none. */
    private static long[] range(RepairAuction x, String role, List<Object> chosen) {
        switch (role) {
            case "n":
                return new long[] {0, x.count(0) - 1};
            case "t":
                return new long[] {0, x.count(1) - 1};
            case "g":
                return new long[] {0, x.count(2) - 1};
            case "s":
                int group = (Integer) chosen.get(0);
                boolean exists = group >= 0 && group < x.count(2);
                return new long[] {0, exists ? x.group(group, 2) + x.group(group, 3) - 1 : -1};
            case "h":
                return new long[] {0, x.historySize() - 1};
            case "output":
                return new long[] {0, Texts.written(x).length() - 1};
            case "input":
                return new long[] {0, Texts.inputLength(x)};
            case "nodes":
                return new long[] {0, (1L << x.count(0)) - 1};
            default:
                int dots = role.indexOf("..");
                return new long[] {Integer.parseInt(role.substring(0, dots)), Integer.parseInt(role.substring(dots + 2))};
        }
    }

    private String due(Object[] arguments) {
        boolean illegal = false;
        for (int i = 0; i < roles.length; i++) {
            if (arguments[i] instanceof Integer) {
                long[] range = range(make(fixture), roles[i], Arrays.asList(arguments));
                boolean outside = (Integer) arguments[i] < range[0] || (Integer) arguments[i] > range[1];
                if (outside && roles[i].matches("[ntgsh]|output")) {
                    return INDEX;
                }
                illegal |= outside;
            }
        }
        return illegal ? ARGUMENT : "none";
    }

    private void call(Object[] arguments) throws ReflectiveOperationException {
        RepairAuction x = make(fixture);
        String call = "fixture " + fixture + ": " + method.getName() + Arrays.toString(arguments);
        String due = due(arguments);
        String thrown = "none";
        try {
            method.invoke(x, arguments);
        } catch (InvocationTargetException e) {
            thrown = e.getCause().getClass().getSimpleName();
        }
        boolean unfit = thrown.equals("IllegalStateException") || thrown.equals(NoSuchElementException.class.getSimpleName());
        if (due.equals("none")) {
            Check.yes(call + " threw " + thrown + ", which it must not", thrown.equals("none") || unfit);
        } else {
            Check.same(call, thrown, due);
        }
        if (!thrown.equals("none")) {
            Check.same(call + " was refused: what it changed", Texts.everything(x), untouched);
        }
    }
}
