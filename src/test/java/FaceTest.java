import java.lang.reflect.Constructor;
import java.lang.reflect.Executable;
import java.lang.reflect.Field;
import java.lang.reflect.Member;
import java.lang.reflect.Method;
import java.lang.reflect.Modifier;
import java.util.Arrays;
import java.util.HashSet;
import java.util.Set;
import java.util.TreeSet;

/** The public face: just what the document writes down, and nothing else that others can see. */
public final class FaceTest {
    private static final String INDEX = "IndexOutOfBoundsException";
    private static final String ARGUMENT = "IllegalArgumentException";
    private static final String STATE = "IllegalStateException";
    private static final String[] FACE = {
        "int letter(char) " + ARGUMENT + " " + STATE,
        "int holder(int) " + INDEX + " " + STATE,
        "int owner(int) " + INDEX + " " + STATE,
        "int item(int,int,int) " + INDEX + " " + ARGUMENT + " " + STATE,
        "int law(int,int,int) " + INDEX + " " + ARGUMENT,
        "int move(int,int) " + INDEX + " " + STATE,
        "void death(int) " + INDEX + " " + STATE,
        "boolean heir(int,int) " + INDEX + " " + ARGUMENT,
        "int contact(int,int) " + INDEX + " " + STATE,
        "int send(int) " + INDEX + " " + STATE,
        "int split(int) " + INDEX + " " + STATE,
        "int merge(int,int) " + INDEX + " " + ARGUMENT + " " + STATE,
        "int pass(int) " + ARGUMENT + " " + STATE,
        "int claim(int,int,boolean) " + INDEX + " " + STATE,
        "int audit(int,int) " + INDEX + " " + ARGUMENT,
        "int year()",
        "int about(int,int) " + INDEX + " " + ARGUMENT,
        "int due(int) " + INDEX,
        "int dueAnew(int) " + INDEX,
        "int purse(int) " + INDEX,
        "int purseAnew(int) " + INDEX,
        "int fined(int) " + INDEX,
        "int finders()",
    };

    public static void main(String[] args) throws Exception {
        Check.same("modifiers of the class", Modifier.toString(Escheatry.class.getModifiers()), "public final");
        constants();
        constructors();
        methods();
        classesInside();
        Check.end("FaceTest");
    }

    private static void constants() throws Exception {
        Check.same("NONE", Escheatry.NONE, -1);
        Check.same("HELD", Escheatry.HELD, 0);
        Check.same("PAID", Escheatry.PAID, 1);
        Check.same("CLAIMED", Escheatry.CLAIMED, 2);
        Set<String> open = new TreeSet<>();
        for (Field field : Escheatry.class.getDeclaredFields()) {
            if (!hidden(field)) {
                open.add(Modifier.toString(field.getModifiers()) + " " + field.getType() + " " + field.getName());
            }
            if (Modifier.isStatic(field.getModifiers())) {
                Check.same(field + " is final", Modifier.isFinal(field.getModifiers()), true);
            }
        }
        Set<String> want = new TreeSet<>();
        for (String name : new String[] {"NONE", "HELD", "PAID", "CLAIMED"}) {
            want.add("public static final int " + name);
        }
        Check.same("constants", open, want);
    }

    private static void constructors() {
        Constructor<?>[] all = Escheatry.class.getDeclaredConstructors();
        Check.same("constructors", all.length, 1);
        Check.same("constructor", all[0].toString(), "public Escheatry()");
    }

    private static void methods() {
        Set<String> open = new TreeSet<>();
        Set<String> openNames = new HashSet<>();
        for (Method method : Escheatry.class.getDeclaredMethods()) {
            if (!hidden(method)) {
                Check.same(method + " modifiers", Modifier.toString(method.getModifiers()), "public");
                open.add(signature(method));
                openNames.add(method.getName());
            }
        }
        Check.same("methods", open, new TreeSet<>(Arrays.asList(FACE)));
        for (Method method : Escheatry.class.getDeclaredMethods()) {
            if (hidden(method)) {
                Check.same(method + " bears an open name", openNames.contains(method.getName()), false);
            }
        }
    }

    private static void classesInside() {
        for (Class<?> inside : Escheatry.class.getDeclaredClasses()) {
            int modifiers = inside.getModifiers();
            boolean fits = Modifier.isStatic(modifiers) && !Modifier.isPublic(modifiers) && !Modifier.isProtected(modifiers);
            Check.same(inside + " is static and not open", fits, true);
            for (Field field : inside.getDeclaredFields()) {
                if (Modifier.isStatic(field.getModifiers())) {
                    Check.same(field + " is final", Modifier.isFinal(field.getModifiers()), true);
                }
            }
        }
    }

    private static boolean hidden(Member member) {
        return Modifier.isPrivate(member.getModifiers());
    }

    private static String signature(Method method) {
        StringBuilder text = new StringBuilder(method.getReturnType().getName()).append(' ').append(method.getName()).append('(');
        for (Class<?> type : method.getParameterTypes()) {
            text.append(text.charAt(text.length() - 1) == '(' ? "" : ",").append(type.getName());
        }
        return text.append(')').append(thrown(method)).toString();
    }

    private static String thrown(Executable method) {
        StringBuilder text = new StringBuilder();
        for (Class<?> type : method.getExceptionTypes()) {
            text.append(' ').append(type.getSimpleName());
        }
        return text.toString();
    }
}
