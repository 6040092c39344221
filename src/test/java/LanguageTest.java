import java.io.DataInputStream;
import java.io.IOException;
import java.io.InputStream;
import java.nio.charset.StandardCharsets;
import java.nio.file.Files;
import java.nio.file.Path;
import java.util.ArrayList;
import java.util.List;
import java.util.Set;
import java.util.regex.Matcher;
import java.util.regex.Pattern;

/** The rules of LANGUAGE.md that the source's text and the compiled classes can show. */
public final class LanguageTest {
    private static final String SOURCE = "src/main/java/Escheatry.java";
    private static final Set<String> LIBRARY = Set.of(
        "java/lang/Object.<init>", "java/lang/Enum.<init>", "java/lang/Enum.valueOf",
        "java/lang/String.length", "java/lang/String.charAt", "java/lang/String.isEmpty", "java/lang/String.equals",
        "java/lang/StringBuilder.<init>", "java/lang/StringBuilder.append", "java/lang/StringBuilder.setLength",
        "java/lang/StringBuilder.length", "java/lang/StringBuilder.toString",
        "java/util/ArrayList.<init>", "java/util/ArrayList.add", "java/util/ArrayList.get", "java/util/ArrayList.size",
        "java/lang/Math.max", "java/lang/Math.min",
        "java/lang/IllegalStateException.<init>", "java/lang/IllegalArgumentException.<init>",
        "java/lang/IndexOutOfBoundsException.<init>");
    private static final String[] FORBIDDEN = {
        "->", "::", "\\bsynchronized\\b", "\\bassert\\b", "\\bfinally\\b", "\\btry\\b", "\\bcatch\\b", "\\brecord\\b",
        "\\bvolatile\\b", "\\btransient\\b", "\\bnative\\b", "\\bpackage\\b", "\\bvar\\b", "\\bstatic\\s*\\{",
        "\\bThread\\b", "\\bhashCode\\b", "Exact\\s*\\(", "\"\\s*\\+", "\\+\\s*\"", "\\bfor\\s*\\([^;)]*:", "\\bwhile\\s*\\(true",
    };

    public static void main(String[] args) throws IOException {
        String source = Files.readString(Path.of(SOURCE), StandardCharsets.ISO_8859_1);
        signs(source);
        String code = source.replaceAll("(?s)/\\*.*?\\*/", "").replaceAll("//[^\n]*", "").replaceAll("\"[^\"\n]*\"", "\"\"");
        forbidden(code);
        thrown(code);
        methods(code);
        classes(code);
        library();
        Check.end("LanguageTest");
    }

    private static void signs(String source) {
        for (int i = 0; i < source.length(); i++) {
            char sign = source.charAt(i);
            if (sign > 126 || sign < 32 && sign != '\n') {
                Check.same("sign at " + i, (int) sign, "plain");
            }
        }
        Check.same("an end of line at the end", source.endsWith("}\n"), true);
    }

    private static void forbidden(String code) {
        for (String pattern : FORBIDDEN) {
            Check.same("code has " + pattern, Pattern.compile(pattern).matcher(code).find(), false);
        }
        Matcher imports = Pattern.compile("import ([^;]*);").matcher(code);
        while (imports.find()) {
            Check.same("import", imports.group(1), "java.util.ArrayList");
        }
    }

    private static void thrown(String code) {
        Matcher all = Pattern.compile("\\bthrow\\b([^;]*);").matcher(code);
        while (all.find()) {
            boolean plain = all.group(1).matches(" new (IndexOutOfBounds|IllegalArgument|IllegalState)Exception\\(\"\"\\)");
            Check.same("throw" + all.group(1) + " is plain", plain, true);
        }
    }

    private static void methods(String code) {
        Pattern head = Pattern.compile(" {4,8}(?:\\w[\\w<>\\[\\], ]* )?\\w+\\(([^)]*)\\)[^;={]*\\{");
        String[] lines = code.split("\n", -1);
        String text = "";
        for (int at = 0; at < lines.length; at++) {
            text = lines[at].endsWith("{") && at > 0 && lines[at].contains("throws ") && !lines[at].contains("(")
                ? lines[at - 1] + " " + lines[at].trim() : lines[at];
            Matcher found = head.matcher(text);
            if (found.matches()) {
                int indent = text.length() - text.stripLeading().length();
                int end = at;
                while (!lines[end].equals(" ".repeat(indent) + "}")) {
                    end++;
                }
                Check.same(text.trim() + " is short", end - at <= 60, true);
                Check.same(text.trim() + " has few parameters", found.group(1).split(",").length <= 7, true);
            }
        }
    }

    private static void classes(String code) {
        Matcher all = Pattern.compile("\\b(class|enum|interface) \\w+").matcher(code);
        int count = 0;
        while (all.find()) {
            count++;
        }
        Check.same("at most twelve classes", count <= 12, true);
        for (Class<?> each : allClasses()) {
            long fields = java.util.Arrays.stream(each.getDeclaredFields())
                .filter(f -> !java.lang.reflect.Modifier.isStatic(f.getModifiers())).count();
            Check.same(each + " has few fields", fields <= 20, true);
        }
    }

    private static List<Class<?>> allClasses() {
        List<Class<?>> all = new ArrayList<>(List.of(Escheatry.class.getDeclaredClasses()));
        all.add(Escheatry.class);
        return all;
    }

    private static void library() throws IOException {
        for (Class<?> each : allClasses()) {
            try (InputStream in = LanguageTest.class.getResourceAsStream("/" + each.getName() + ".class")) {
                for (String called : calledBy(new DataInputStream(in))) {
                    boolean own = called.startsWith("Escheatry") || called.startsWith("[LEscheatry");
                    Check.same(each.getName() + " may call " + called, own || LIBRARY.contains(called), true);
                }
            }
        }
    }

    /** The methods that a compiled class calls, as its table of constants has them. */
    private static List<String> calledBy(DataInputStream in) throws IOException {
        in.readLong();
        int size = in.readUnsignedShort();
        String[] text = new String[size];
        int[][] pair = new int[size][];
        List<int[]> calls = new ArrayList<>();
        List<String> called = new ArrayList<>();
        for (int at = 1; at < size; at++) {
            int tag = in.readUnsignedByte();
            switch (tag) {
                case 1: text[at] = in.readUTF(); break;
                case 3: case 4: in.readInt(); break;
                case 5: case 6: in.readLong(); at++; break;
                case 7: case 8: case 16: case 19: case 20: pair[at] = new int[] {in.readUnsignedShort()}; break;
                case 9: case 12: pair[at] = new int[] {in.readUnsignedShort(), in.readUnsignedShort()}; break;
                case 10: case 11: calls.add(new int[] {in.readUnsignedShort(), in.readUnsignedShort()}); break;
                case 15: in.readUnsignedByte(); in.readUnsignedShort(); break;
                default: in.readInt(); called.add("something dynamic"); break;
            }
        }
        for (int[] call : calls) {
            called.add(text[pair[call[0]][0]] + "." + text[pair[call[1]][0]]);
        }
        return called;
    }
}
