import java.lang.reflect.InvocationTargetException;
import java.lang.reflect.Method;
import java.util.ArrayList;
import java.util.Arrays;
import java.util.Comparator;
import java.util.HashMap;
import java.util.List;
import java.util.Map;
import java.util.Random;

/**
 * Drawn runs of at most 512 calls each on a RepairAuction and on a Model: every answer and every
 * exception must be the same. The seeds are fixed, so that each run of the tests draws the same.
 */
final class ModelTest {
    private static final int RUNS = 400;
    private static final int CALLS = 512;

    /** For each parameter a letter for a number that exists, or the greatest value that is allowed. */
    private static final Map<String, String> PARAMETERS = new HashMap<>();

    static {
        String[] lines = {"append any any any any any", "truncate 1400", "find 2", "count 2", "node n 6", "groupsOn n",
            "nodeFrom 9999", "clockwise n n", "zoneShards 9", "tenant t 4", "share t", "group g 8", "nodeOf g s",
            "missing g", "zonesOf g", "loss g", "lossWithout g n", "offer g", "bids g", "target g", "bidder 9",
            "outcome g 1", "fail n", "recover n", "drain n 1", "rounds 5", "setRisk n 999", "setBandwidth 150",
            "setRule 2", "grant t 999999", "move g s n", "lostBy m", "roundsToRepair g", "soldIn 40", "purseAfter t 40",
            "history h 4", "meanPrice 40", "outputByte 60"};
        for (String line : lines) {
            PARAMETERS.put(line.substring(0, line.indexOf(' ')), line.substring(line.indexOf(' ') + 1));
        }
    }

    private final Random random;
    private final RepairAuction real = new RepairAuction();
    private final Model model = new Model();
    private final StringBuilder log = new StringBuilder();
    private int calls;
    private boolean same = true;

    private ModelTest(long seed) {
        random = new Random(seed);
    }

    static void run() throws ReflectiveOperationException {
        List<Method> methods = new ArrayList<>();
        for (Method each : RepairAuction.class.getDeclaredMethods()) {
            if (java.lang.reflect.Modifier.isPublic(each.getModifiers())) {
                methods.add(each);
            }
        }
        methods.sort(Comparator.comparing(Method::getName));
        for (int seed = 0; seed < RUNS; seed++) {
            ModelTest test = new ModelTest(seed);
            test.play(methods);
            Check.yes("run " + seed + " as the model answers: " + (test.same ? "" : test.log), test.same);
        }
    }

    private void play(List<Method> methods) throws ReflectiveOperationException {
        for (int tries = 0; model.count(0) == 0 && tries < 3 && random.nextInt(20) > 0; tries++) {
            load();
        }
        while (same && calls < CALLS) {
            int kind = random.nextInt(200);
            if (kind < 1 && calls < CALLS - 80) {
                load();
            } else if (kind < 4) {
                find();
            } else if (kind < 50) {
                change();
            } else {
                drawn(methods.get(random.nextInt(methods.size())));
            }
        }
    }

    private void change() throws ReflectiveOperationException {
        String[] names = {"fail", "fail", "recover", "recover", "recover", "recover", "drain", "round", "round", "rounds",
            "setBandwidth", "grant", "grant", "move", "setRisk", "setRule", "undo"};
        String name = names[random.nextInt(names.length)];
        for (Method each : RepairAuction.class.getDeclaredMethods()) {
            if (each.getName().equals(name)) {
                drawn(each);
            }
        }
    }

    private void drawn(Method method) throws ReflectiveOperationException {
        String name = method.getName();
        if (name.equals("load") || name.equals("append") && random.nextInt(4) > 0) {
            return;
        }
        Class<?>[] types = method.getParameterTypes();
        Object[] arguments = new Object[types.length];
        for (int i = 0; i < types.length; i++) {
            arguments[i] = types[i] == boolean.class ? (Object) random.nextBoolean() : (Object) number(name, i);
        }
        call(method, arguments);
    }

    private int number(String name, int parameter) {
        String role = PARAMETERS.get(name).split(" ")[parameter];
        int kind = random.nextInt(100);
        if (role.equals("any")) {
            return random.nextInt();
        }
        if (kind < 2) {
            return new int[] {Integer.MIN_VALUE, Integer.MAX_VALUE, -1, 16, 100000}[random.nextInt(5)];
        }
        int most = mostOf(role);
        if (kind < 6) {
            return most - 1 + random.nextInt(4);
        }
        boolean wide = name.equals("rounds") || name.equals("soldIn") || name.equals("purseAfter");
        if (wide && kind < 14) {
            return (name.equals("rounds") ? 97 : 297) + random.nextInt(6);
        }
        if (name.equals("setBandwidth") && kind < 10) {
            return 99997 + random.nextInt(4);
        }
        if (name.equals("grant") && parameter == 1 && kind < 60) {
            return random.nextInt(20000);
        }
        return random.nextInt(Math.max(1, most + 1));
    }

    private int mostOf(String role) {
        switch (role) {
            case "n":
                return model.count(0) - 1;
            case "t":
                return model.count(1) - 1;
            case "g":
                return model.count(2) - 1;
            case "s":
                return random.nextInt(6);
            case "h":
                return model.historySize() - 1;
            case "m":
                return (1 << model.count(0)) - 1;
            default:
                return Integer.parseInt(role);
        }
    }

    private void call(Method method, Object[] arguments) throws ReflectiveOperationException {
        if (calls >= CALLS) {
            return;
        }
        calls++;
        String got = answer(method, real, arguments);
        String due = answer(Model.class.getMethod(method.getName(), method.getParameterTypes()), model, arguments);
        log.append("\n  ").append(method.getName()).append(Arrays.toString(arguments)).append(' ').append(got);
        if (!got.equals(due)) {
            log.append(", the model answers ").append(due);
            same = false;
        }
    }

    private void call(String name, Object... arguments) throws ReflectiveOperationException {
        Class<?>[] types = new Class<?>[arguments.length];
        Arrays.fill(types, int.class);
        call(RepairAuction.class.getMethod(name, types), arguments);
    }

    private static String answer(Method method, Object target, Object[] arguments) throws ReflectiveOperationException {
        try {
            return "" + method.invoke(target, arguments);
        } catch (InvocationTargetException thrown) {
            return "throws " + thrown.getCause().getClass().getSimpleName();
        }
    }

    private void append(String text) throws ReflectiveOperationException {
        call("truncate", 0);
        for (int from = 0; from < text.length(); from += 20) {
            Object[] fours = new Object[5];
            for (int i = 0; i < 5; i++) {
                int value = 0;
                for (int j = from + 4 * i; j < from + 4 * i + 4; j++) {
                    value = value << 8 | (j < text.length() ? text.charAt(j) : 'x');
                }
                fours[i] = value;
            }
            call("append", fours);
        }
        call("truncate", Math.min(1400, text.length()));
    }

    private void find() throws ReflectiveOperationException {
        append("" + (char) ('a' + random.nextInt(8)) + (random.nextInt(5) == 0 ? "b" : ""));
        call("find", random.nextInt(3));
    }

    private void load() throws ReflectiveOperationException {
        String text = text();
        if (random.nextInt(4) == 0) {
            text = spoiled(text);
        }
        append(text);
        call("load");
        call("errorCode");
        call("errorPosition");
    }

    private int below(int bound) {
        return random.nextInt(bound);
    }

    private String text() {
        String[] rules = {"first", "second", "uniform"};
        StringBuilder text = new StringBuilder("ring bandwidth " + (1 + below(below(2) == 0 ? 40 : 400)) + " carry "
                + below(60) + " reserve " + below(below(2) == 0 ? 3 : 500) + " price " + rules[below(3)] + ";");
        int nodes = 2 + below(below(3) == 0 ? 15 : 8);
        int zones = 1 + below(10);
        int step = below(2) == 0 ? 4 : 10000 / nodes;
        int turn = below(nodes);
        int risks = new int[] {20, 200, 1000}[below(3)];
        for (int node = 0; node < nodes; node++) {
            text.append("node ").append((char) ('a' + node)).append(" at ").append((node + turn) * 7 % nodes * step + below(step));
            text.append(" zone ").append(below(zones)).append(" risk ").append(below(risks)).append(" room ");
            text.append(1 + below(below(4) == 0 ? 6 : 50)).append(";");
        }
        int tenants = 1 + below(below(2) == 0 ? 6 : 2);
        for (int tenant = 0; tenant < tenants; tenant++) {
            text.append("tenant ").append((char) ('a' + tenant)).append(" income ").append(below(below(2) == 0 ? 1000 : 99999));
            text.append(" most ").append(below(below(2) == 0 ? 9999 : 999999)).append(";");
        }
        int groups = 1 + below(10);
        for (int group = 0; group < groups; group++) {
            text.append("group ").append((char) ('a' + group)).append(" of ").append((char) ('a' + below(tenants)));
            text.append(" key ").append(below(nodes * step));
            text.append(" data ").append(1 + below(Math.min(6, Math.max(1, nodes / 2))));
            text.append(" parity ").append(1 + below(Math.min(4, Math.max(1, nodes / 2))));
            text.append(" size ").append(1 + below(below(2) == 0 ? 10 : 100));
            text.append(" value ").append(1 + below(below(2) == 0 ? 30 : 9999)).append(";");
        }
        while (text.length() > 1400) {
            text.setLength(text.lastIndexOf(";", text.length() - 2) + 1);
        }
        return text.toString();
    }

    private String spoiled(String text) {
        int at = below(text.length());
        String rest = text.substring(at);
        switch (below(6)) {
            case 0:
                return text.substring(0, at);
            case 1:
                return text.substring(0, at) + (char) (below(2) == 0 ? below(256) : "a z09;\n".charAt(below(7))) + rest;
            case 2:
                return text.substring(0, at) + rest.substring(1);
            case 3:
                return text.substring(0, at) + rest.replaceFirst("[0-9]+", "" + below(below(2) == 0 ? 2000000 : 12));
            case 4:
                return text.substring(0, at) + rest.replaceFirst("[a-z]+", below(2) == 0 ? "a" : "node");
            default:
                return text.substring(0, at) + rest.replaceFirst(" ", "\n  ");
        }
    }
}
