import java.io.ByteArrayOutputStream;
import java.io.IOException;
import java.io.PrintStream;
import java.lang.reflect.Method;
import java.lang.reflect.Modifier;
import java.nio.charset.StandardCharsets;
import java.nio.file.Files;
import java.nio.file.Paths;
import java.util.ArrayList;
import java.util.List;
import java.util.TreeSet;
import java.util.regex.Matcher;
import java.util.regex.Pattern;

/** README.md fits the class and DOC.md: its program, its texts, its calls and its exceptions. */
final class ReadmeTest {
    private final String page;
    private final String document;

    private ReadmeTest(String page, String document) {
        this.page = page;
        this.document = document;
    }

    static void run(String pagePath, String documentPath, String examplePath) throws IOException {
        ReadmeTest test = new ReadmeTest(read(pagePath), read(documentPath));
        test.program(read(examplePath));
        test.texts();
        test.errorCodes();
        test.ranges();
        test.calls();
        test.values();
        test.exceptions();
    }

    private static String read(String path) throws IOException {
        return Files.readString(Paths.get(path), StandardCharsets.UTF_8);
    }

    private List<String> found(String text, String form) {
        List<String> list = new ArrayList<>();
        Matcher matcher = Pattern.compile(form).matcher(text);
        while (matcher.find()) {
            list.add(matcher.group(1));
        }
        return list;
    }

    /** What stands under a heading of the page. */
    private String section(String heading) {
        int from = page.indexOf("\n## " + heading + "\n");
        Check.yes("README.md has a section " + heading, from >= 0);
        int to = page.indexOf("\n## ", from + 1);
        return page.substring(Math.max(0, from), to < 0 ? page.length() : to);
    }

    private List<String> blocks(String heading, String kind) {
        return found(section(heading), "(?s)\n```" + kind + "\n(.*?)```\n");
    }

    private void program(String source) {
        Check.same("README.md's program", String.join("", blocks("How to use it", "java")), source);
        PrintStream console = System.out;
        ByteArrayOutputStream printed = new ByteArrayOutputStream();
        System.setOut(new PrintStream(printed, true, StandardCharsets.UTF_8));
        try {
            Example.main(new String[0]);
        } finally {
            System.setOut(console);
        }
        String got = printed.toString(StandardCharsets.UTF_8).replace("\r\n", "\n");
        Check.same("what it prints", got, String.join("", blocks("How to use it", "text")));
    }

    private void texts() {
        List<String> blocks = blocks("The text that load() reads", "text");
        Check.same("the forms and a text", blocks.size(), 2);
        String[] forms = blocks.get(0).split("\n");
        Check.same("forms of statements", forms.length, 4);
        for (String form : forms) {
            Check.yes("DOC.md has the form " + form, document.contains("\n     " + form + "\n"));
        }
        Check.same("load() of " + blocks.get(1), Texts.load(new RepairAuction(), blocks.get(1)), 0);
    }

    private void errorCodes() {
        List<String> codes = found(section("The text that load() reads"), "\n\\| (\\d) \\|");
        Check.same("the codes of README.md", String.join(" ", codes), "1 2 3 4 5");
    }

    /** The ranges of the numbers in the four forms, in their order. */
    private void ranges() {
        String forms = document.substring(document.indexOf("     ring bandwidth N"), document.indexOf("Nodes, tenants and groups are numbered"));
        String mine = section("The text that load() reads").replaceAll("\\s+", " ");
        String due = String.join(" ", found(forms, "(\\d+ to \\d+)"));
        String ofPage = String.join(" ", found(mine.substring(mine.indexOf("- The `ring`"), mine.indexOf("- A name has")), "(\\d+ to \\d+)"));
        Check.same("the ranges of README.md", ofPage, due);
        String most = String.join(" ", found(mine, "`, at most (\\d+)[:,]"));
        Check.same("how many things there may be", most, String.join(" ", found(forms, "At most (\\d+)")));
    }

    private static List<Method> face() {
        List<Method> methods = new ArrayList<>();
        for (Method each : RepairAuction.class.getDeclaredMethods()) {
            if (Modifier.isPublic(each.getModifiers())) {
                methods.add(each);
            }
        }
        return methods;
    }

    private void calls() {
        TreeSet<String> due = new TreeSet<>();
        for (String call : found(document, "    public \\w+ (\\w+\\([^)]*\\))[^;]*;")) {
            due.add(call.replaceAll("(int|boolean) ", ""));
        }
        Check.same("calls of DOC.md's face", due.size(), face().size());
        TreeSet<String> mine = new TreeSet<>();
        for (String line : section("The calls").split("\n")) {
            if (line.startsWith("| `")) {
                mine.addAll(found(line.substring(0, line.indexOf(" | ")), "`(\\w+\\([^)]*\\))`"));
            }
        }
        Check.same("the calls of README.md", String.join(" ", mine), String.join(" ", due));
    }

    /** The values that "what" chooses are told in DOC.md's words. */
    private void values() {
        String mine = section("The calls").replaceAll("\\s+", " ") + "- ";
        int told = 0;
        for (String part : document.split("\n## Promise \\d+: ")) {
            String name = part.substring(0, part.indexOf('\n'));
            for (String values : found(part, "\n- `what`: (.*)\n")) {
                told++;
                Check.yes("README.md tells the values of " + name, mine.contains(" - `" + name + "`: " + values + " "));
            }
        }
        Check.same("calls that have values to choose from", told, 5);
    }

    private void exceptions() {
        String text = section("The exceptions");
        List<String> order = found(text, "\n- `(?:java\\.util\\.)?(\\w+)`");
        Check.same("exceptions", String.join(" ", order),
                "IndexOutOfBoundsException IllegalArgumentException IllegalStateException NoSuchElementException");
        String[] parts = text.split("\n- ");
        for (int index = 0; index < order.size(); index++) {
            TreeSet<String> due = new TreeSet<>();
            for (Method each : face()) {
                for (Class<?> type : each.getExceptionTypes()) {
                    if (type.getSimpleName().equals(order.get(index))) {
                        due.add(each.getName());
                    }
                }
            }
            String throwing = parts[index + 1].substring(parts[index + 1].indexOf("Thrown"));
            TreeSet<String> mine = new TreeSet<>(found(throwing, "`(\\w+)`"));
            Check.same("the calls that throw " + order.get(index), String.join(" ", mine), String.join(" ", due));
        }
    }
}
