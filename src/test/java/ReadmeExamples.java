import java.io.IOException;
import java.lang.reflect.Method;
import java.lang.reflect.Modifier;
import java.nio.file.Files;
import java.nio.file.Path;
import java.util.ArrayList;
import java.util.List;
import java.util.regex.Matcher;
import java.util.regex.Pattern;

/**
 * Makes two programs of README.md's examples: ReadmeShown, as they stand there, and ReadmeChecked, which
 * looks whether each call answers what stands behind it. Arguments: README.md's path, a directory.
 */
final class ReadmeExamples {
    private static final Pattern ANSWERED =
            Pattern.compile("(?s)(.*);\\s*//\\s*(throws \\w+|NONE|true|false|-?\\d+)(?=:|\\s|$)[^\n]*");
    /** What has no answer to be told. */
    private static final Pattern SILENT =
            Pattern.compile("TownTune \\w+ = new TownTune\\(\\);|x\\.(forget|image)\\(\\);");
    private static final String CHECKS = String.join("\n",
            "    interface Call { Object get(); }",
            "    static int made = 0;",
            "    static int wrong = 0;",
            "    static void due(int line, String told, Call call) {",
            "        String got;",
            "        try {",
            "            got = String.valueOf(call.get());",
            "        } catch (RuntimeException e) {",
            "            got = \"throws \" + e.getClass().getSimpleName();",
            "        }",
            "        made++;",
            "        if (!got.equals(told.equals(\"NONE\") ? \"\" + TownTune.NONE : told)) {",
            "            wrong++;",
            "            System.out.println(\"README.md, line \" + line + \": answers \" + got + \", told is \" + told);",
            "        }",
            "    }");
    private static final String END = String.join("\n",
            "        System.out.println(\"README.md: \" + (made - wrong) + \" of \" + made + \" answers as told\");",
            "        System.exit(wrong == 0 && made > 0 ? 0 : 1);");

    private final StringBuilder methods = new StringBuilder();
    private final StringBuilder shown = new StringBuilder();
    private final StringBuilder checked = new StringBuilder();
    private boolean isWhole = true;

    private ReadmeExamples() {
    }

    public static void main(String[] args) throws IOException {
        List<String> readme = Files.readAllLines(Path.of(args[0]));
        ReadmeExamples examples = new ReadmeExamples();
        for (int line = 0; line < readme.size(); line++) {
            if (readme.get(line).trim().equals("```java")) {
                line = examples.takeBlock(readme, line + 1);
            }
        }
        examples.write(Path.of(args[1]));
        examples.lookForEveryCall();
        if (!examples.isWhole) {
            System.exit(1);
        }
    }

    /** Takes the block that begins at this line, and answers the line that ends it. */
    private int takeBlock(List<String> readme, int begin) {
        int end = begin;
        while (end < readme.size() && !readme.get(end).trim().equals("```")) {
            end++;
        }
        if (begin < end && readme.get(begin).startsWith("static ")) {
            methods.append(String.join("\n", readme.subList(begin, end))).append('\n');
            return end;
        }
        List<String> statement = new ArrayList<>();
        for (int line = begin; line < end; line++) {
            statement.add(readme.get(line));
            if (readme.get(line).replaceAll("//.*", "").trim().endsWith(";")) {
                takeStatement(line + 1, String.join("\n", statement));
                statement.clear();
            }
        }
        if (!String.join("", statement).isBlank()) {
            miss("line " + (begin + 1) + ": an example that does not end with a statement");
        }
        return end;
    }

    private void takeStatement(int line, String statement) {
        shown.append(statement).append('\n');
        Matcher answered = ANSWERED.matcher(statement);
        if (answered.matches()) {
            checked.append("due(").append(line).append(", \"").append(answered.group(2)).append("\", () -> ");
            checked.append(answered.group(1).trim()).append(");\n");
        } else {
            checked.append(statement).append('\n');
            if (!SILENT.matcher(statement.trim()).matches()) {
                miss("line " + line + ": a call without its answer");
            }
        }
    }

    private void miss(String what) {
        System.out.println("README.md: " + what);
        isWhole = false;
    }

    private void write(Path directory) throws IOException {
        String head = " {\n" + methods + "\npublic static void main(String[] args) {\n";
        Files.writeString(directory.resolve("ReadmeShown.java"),
                "public final class ReadmeShown" + head + shown + "}\n}\n");
        Files.writeString(directory.resolve("ReadmeChecked.java"),
                "public final class ReadmeChecked" + head + checked + END + "\n}\n" + CHECKS + "\n}\n");
    }

    private void lookForEveryCall() {
        String code = methods.toString() + shown;
        for (Method m : TownTune.class.getDeclaredMethods()) {
            if (Modifier.isPublic(m.getModifiers()) && !code.contains("x." + m.getName() + "(")) {
                miss("no example calls " + m.getName());
            }
        }
    }
}
