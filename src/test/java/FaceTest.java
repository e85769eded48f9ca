import java.io.IOException;
import java.lang.reflect.Constructor;
import java.lang.reflect.Field;
import java.lang.reflect.Method;
import java.lang.reflect.Modifier;
import java.nio.charset.StandardCharsets;
import java.nio.file.Files;
import java.nio.file.Paths;
import java.util.StringJoiner;
import java.util.TreeSet;

/** The class has the document's face and no other, and keeps to what LANGUAGE.md forbids outright. */
final class FaceTest {
    private FaceTest() {
    }

    static void run(String document, String source) throws IOException {
        Check.same("the face", face(), documentsFace(document));
        Check.same("NONE", RepairAuction.NONE, -1);
        Check.same("PARSE_ERROR", RepairAuction.PARSE_ERROR, -4);
        Check.yes("the class is public and final", RepairAuction.class.getModifiers() == (Modifier.PUBLIC | Modifier.FINAL));
        privateNames();
        words(source);
    }

    private static String face() {
        TreeSet<String> lines = new TreeSet<>();
        for (Constructor<?> each : RepairAuction.class.getDeclaredConstructors()) {
            lines.add(modifiers(each.getModifiers()) + "RepairAuction()");
        }
        for (Field each : RepairAuction.class.getDeclaredFields()) {
            if (!Modifier.isPrivate(each.getModifiers())) {
                lines.add(modifiers(each.getModifiers()) + each.getType() + " " + each.getName());
            }
        }
        for (Method each : RepairAuction.class.getDeclaredMethods()) {
            if (!Modifier.isPrivate(each.getModifiers()) && !each.isSynthetic()) {
                lines.add(signature(each));
            }
        }
        return String.join("\n", lines);
    }

    private static String signature(Method method) {
        StringJoiner parameters = new StringJoiner(", ", "(", ")");
        for (Class<?> type : method.getParameterTypes()) {
            parameters.add(type.getName());
        }
        StringJoiner exceptions = new StringJoiner(", ", " throws ", "").setEmptyValue("");
        for (Class<?> type : method.getExceptionTypes()) {
            exceptions.add(type.getSimpleName());
        }
        return modifiers(method.getModifiers()) + method.getReturnType() + " " + method.getName() + parameters + exceptions;
    }

    private static String modifiers(int modifiers) {
        return modifiers == 0 ? "" : Modifier.toString(modifiers) + " ";
    }

    private static String documentsFace(String document) throws IOException {
        TreeSet<String> lines = new TreeSet<>();
        String text = Files.readString(Paths.get(document), StandardCharsets.UTF_8);
        String block = text.substring(text.indexOf("```java"), text.indexOf("```", text.indexOf("```java") + 3));
        for (String line : block.split("\n")) {
            String face = line.trim().replaceAll("(int|boolean|double) (\\w+)(?=[,)])", "$1");
            if (face.startsWith("public ") && face.endsWith(";")) {
                lines.add(face.replaceAll(" = -?\\d+;|;", ""));
            }
        }
        return String.join("\n", lines);
    }

    private static void privateNames() {
        TreeSet<String> names = new TreeSet<>();
        for (Method each : RepairAuction.class.getDeclaredMethods()) {
            if (Modifier.isPublic(each.getModifiers())) {
                names.add(each.getName());
            }
        }
        for (Class<?> inside : RepairAuction.class.getDeclaredClasses()) {
            Check.yes(inside + " is static", Modifier.isStatic(inside.getModifiers()));
            for (Method each : inside.getDeclaredMethods()) {
                Check.yes(each + " has a name of its own", !names.contains(each.getName()));
            }
        }
        for (Method each : RepairAuction.class.getDeclaredMethods()) {
            if (!Modifier.isPublic(each.getModifiers())) {
                Check.yes(each + " has a name of its own", !names.contains(each.getName()));
            }
        }
    }

    private static void words(String source) throws IOException {
        String text = Files.readString(Paths.get(source), StandardCharsets.UTF_8);
        Check.same("imports", text.replaceAll("(?s)(?m)^(?!import).*?$\n?", "").trim(), "import java.util.NoSuchElementException;");
        for (String word : new String[] {"package", "catch", "try", "finally", "synchronized", "assert", "native",
            "protected", "volatile", "->", "::", "instanceof", "Exception e", "System.out", "nanoTime", "Random"}) {
            Check.yes("no " + word, !text.matches("(?s).*(?<![a-zA-Z])" + word + "(?![a-zA-Z]).*"));
        }
    }
}
