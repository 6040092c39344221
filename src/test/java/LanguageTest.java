import java.io.DataInputStream;
import java.io.IOException;
import java.io.InputStream;
import java.nio.charset.StandardCharsets;
import java.nio.file.Files;
import java.nio.file.Path;
import java.util.ArrayList;
import java.util.Arrays;
import java.util.List;
import java.util.Set;
import java.util.regex.Matcher;
import java.util.regex.Pattern;
import java.util.stream.Collectors;

/** The rules of LANGUAGE.md that the source's text and the compiled classes can show. */
public final class LanguageTest {
    private static final String SOURCE = "src/main/java/Escheatry.java";
    private static final Set<String> LIBRARY = Set.of(
        "java/lang/Object.<init>()V", "java/lang/Enum.<init>(Ljava/lang/String;I)V",
        "java/lang/Enum.valueOf(Ljava/lang/Class;Ljava/lang/String;)Ljava/lang/Enum;",
        "java/lang/String.length()I", "java/lang/String.charAt(I)C", "java/lang/String.isEmpty()Z",
        "java/lang/String.equals(Ljava/lang/Object;)Z",
        "java/lang/StringBuilder.<init>()V", "java/lang/StringBuilder.append(C)Ljava/lang/StringBuilder;",
        "java/lang/StringBuilder.setLength(I)V", "java/lang/StringBuilder.length()I",
        "java/lang/StringBuilder.toString()Ljava/lang/String;",
        "java/util/ArrayList.<init>()V", "java/util/ArrayList.add(Ljava/lang/Object;)Z",
        "java/util/ArrayList.get(I)Ljava/lang/Object;", "java/util/ArrayList.size()I",
        "java/lang/Math.max(II)I", "java/lang/Math.min(II)I",
        "java/lang/IllegalStateException.<init>(Ljava/lang/String;)V",
        "java/lang/IllegalArgumentException.<init>(Ljava/lang/String;)V",
        "java/lang/IndexOutOfBoundsException.<init>(Ljava/lang/String;)V");
    private static final String[] FORBIDDEN = {
        "->", "::", "\\bsynchronized\\b", "\\bassert\\b", "\\bfinally\\b", "\\btry\\b", "\\bcatch\\b", "\\brecord\\b",
        "\\bvolatile\\b", "\\btransient\\b", "\\bnative\\b", "\\bpackage\\b", "\\bvar\\b", "\\bstatic\\s*\\{",
        "\\bThread\\b", "\\bhashCode\\b", "Exact\\s*\\(", "\"\\s*\\+", "\\+\\s*\"", "\\bfor\\s*\\([^;)]*:", "\\bwhile\\s*\\(true",
    };

    public static void main(String[] args) throws IOException {
        String source = Files.readString(Path.of(SOURCE), StandardCharsets.ISO_8859_1);
        signs(source);
        String code = source.replaceAll("(?s)/\\*.*?\\*/", "").replaceAll("//[^\n]*", "").replaceAll("\"[^\"\n]*\"", "\"\"");
        forbidden(code);
        thrown(code);
        methods(methodsOf(code));
        classes(code);
        library();
        Check.end("LanguageTest");
    }

    private static void signs(String source) {
        for (int i = 0; i < source.length(); i++) {
            char sign = source.charAt(i);
            if (sign > 126 || sign < 32 && sign != '\n') {
                Check.same("sign at " + i, (int) sign, "plain");
            }
        }
        Check.same("an end of line at the end", source.endsWith("}\n"), true);
    }

    private static void forbidden(String code) {
        for (String pattern : FORBIDDEN) {
            Check.same("code has " + pattern, Pattern.compile(pattern).matcher(code).find(), false);
        }
        Matcher imports = Pattern.compile("import ([^;]*);").matcher(code);
        while (imports.find()) {
            Check.same("import", imports.group(1), "java.util.ArrayList");
        }
    }

    private static void thrown(String code) {
        Matcher all = Pattern.compile("\\bthrow\\b([^;]*);").matcher(code);
        while (all.find()) {
            boolean plain = all.group(1).matches(" new (IndexOutOfBounds|IllegalArgument|IllegalState)Exception\\(\"\"\\)");
            Check.same("throw" + all.group(1) + " is plain", plain, true);
        }
    }

    /** The method's head in one line, and what stands between its braces. */
    private record Method(String head, String name, int parameters, List<String> body) {
        boolean calls(String other) {
            Pattern call = Pattern.compile("\\b" + other + "\\(");
            return body.stream().anyMatch(line -> call.matcher(line).find());
        }
    }

    private static List<Method> methodsOf(String code) {
        Pattern head = Pattern.compile(" {4,8}(?:\\w[\\w<>\\[\\], ]* )?(\\w+)\\(([^)]*)\\)[^;={]*\\{");
        String[] lines = code.split("\n", -1);
        List<Method> all = new ArrayList<>();
        for (int at = 0; at < lines.length; at++) {
            String text = lines[at].endsWith("{") && at > 0 && lines[at].contains("throws ") && !lines[at].contains("(")
                ? lines[at - 1] + " " + lines[at].trim() : lines[at];
            Matcher found = head.matcher(text);
            if (found.matches()) {
                String close = " ".repeat(text.length() - text.stripLeading().length()) + "}";
                int end = at;
                while (!lines[end].equals(close)) {
                    end++;
                }
                int parameters = found.group(2).isEmpty() ? 0 : found.group(2).split(",").length;
                all.add(new Method(text.trim(), found.group(1), parameters, List.of(lines).subList(at + 1, end)));
            }
        }
        return all;
    }

    private static void methods(List<Method> all) {
        for (Method each : all) {
            Check.same(each.head + " is short", each.body.size() < 60, true);
            Check.same(each.head + " has few parameters", each.parameters <= 7, true);
            long namesakes = all.stream().filter(other -> other.name.equals(each.name)).count();
            Check.same(each.head + " bears a name of its own", namesakes, 1L);
            Check.same(each.head + " calls at most eight deep, and never comes back to itself", depth(each, all, 1) <= 8, true);
        }
        Set<String> classes = allClasses().stream().map(Class::getSimpleName).collect(Collectors.toSet());
        long compiled = allClasses().stream().flatMap(each -> Arrays.stream(each.getDeclaredMethods()))
            .filter(method -> !method.isSynthetic() && !Set.of("values", "valueOf").contains(method.getName())).count();
        Check.same("as many methods are found as there are", all.stream().filter(each -> !classes.contains(each.name)).count(), compiled);
    }

    /** How many methods stand open at most while this one works; a circle of calls is deeper than any bound. */
    private static int depth(Method method, List<Method> all, int open) {
        int deepest = open;
        for (Method other : all) {
            if (deepest <= 8 && method.calls(other.name)) {
                deepest = Math.max(deepest, depth(other, all, open + 1));
            }
        }
        return deepest;
    }

    private static void classes(String code) {
        Matcher all = Pattern.compile("\\b(class|enum|interface) \\w+").matcher(code);
        int count = 0;
        while (all.find()) {
            count++;
        }
        Check.same("at most twelve classes", count <= 12, true);
        for (Class<?> each : allClasses()) {
            long fields = Arrays.stream(each.getDeclaredFields())
                .filter(f -> !java.lang.reflect.Modifier.isStatic(f.getModifiers())).count();
            Check.same(each + " has few fields", fields <= 20, true);
        }
    }

    private static List<Class<?>> allClasses() {
        List<Class<?>> all = new ArrayList<>(List.of(Escheatry.class.getDeclaredClasses()));
        all.add(Escheatry.class);
        return all;
    }

    private static void library() throws IOException {
        for (Class<?> each : allClasses()) {
            try (InputStream in = LanguageTest.class.getResourceAsStream("/" + each.getName() + ".class")) {
                for (String called : calledBy(new DataInputStream(in))) {
                    boolean own = called.startsWith("Escheatry") || called.startsWith("[LEscheatry");
                    Check.same(each.getName() + " may call " + called, own || LIBRARY.contains(called), true);
                }
            }
        }
    }

    /** The methods that a compiled class calls, with what they take and answer, as its table of constants has them. */
    private static List<String> calledBy(DataInputStream in) throws IOException {
        in.readLong();
        int size = in.readUnsignedShort();
        String[] text = new String[size];
        int[][] pair = new int[size][];
        List<int[]> calls = new ArrayList<>();
        List<String> called = new ArrayList<>();
        for (int at = 1; at < size; at++) {
            int tag = in.readUnsignedByte();
            switch (tag) {
                case 1: text[at] = in.readUTF(); break;
                case 3: case 4: in.readInt(); break;
                case 5: case 6: in.readLong(); at++; break;
                case 7: case 8: case 16: case 19: case 20: pair[at] = new int[] {in.readUnsignedShort()}; break;
                case 9: case 12: pair[at] = new int[] {in.readUnsignedShort(), in.readUnsignedShort()}; break;
                case 10: case 11: calls.add(new int[] {in.readUnsignedShort(), in.readUnsignedShort()}); break;
                case 15: in.readUnsignedByte(); in.readUnsignedShort(); break;
                default: in.readInt(); called.add("something dynamic"); break;
            }
        }
        for (int[] call : calls) {
            called.add(text[pair[call[0]][0]] + "." + text[pair[call[1]][0]] + text[pair[call[1]][1]]);
        }
        return called;
    }
}
