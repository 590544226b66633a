import java.lang.reflect.Constructor;
import java.lang.reflect.Field;
import java.lang.reflect.Method;
import java.lang.reflect.Modifier;
import java.nio.file.Files;
import java.nio.file.Path;
import java.util.Set;
import java.util.TreeSet;
import java.util.regex.Matcher;
import java.util.regex.Pattern;

/** The face of the document, and rules of LANGUAGE.md that a test can see. */
public final class FaceTest {
    private static final int MOST_CLASSES = 12, MOST_FIELDS = 20, MOST_METHOD_LINES = 60;
    private static final Set<String> LIBRARY = Set.of("Math.max", "Math.min");
    private static final Set<Class<?>> STATIC_TYPES = Set.of(int.class, long.class, boolean.class, char.class);
    private static final String FACE = "about(int,int)int as(int,int)int ask(int)int best(int,int)int blank()int "
            + "colony()int count(int)int digest()long dinner(int,int)int fault()int felt(int,int)int forget()int "
            + "hear(int,int,int,int)int hours()int image()int letter(int)int raise(int,int)int restore()int "
            + "stroke(int,int)int strike(int,int)int tide(int)int weeks(int,int,int)int";

    public static void main(String[] args) throws Exception {
        constants();
        methods();
        members();
        String source = Files.readString(Path.of(args[0], "src/main/java/GongTide.java"));
        String code = source.replaceAll("(?s)/\\*.*?\\*/", "").replaceAll("//[^\n]*", "");
        signs(source);
        wordsRuledOut(code);
        library(code);
        divisors(code);
        objectsMade(code);
        lengths(code);
        Checks.end();
    }

    private static void constants() {
        Checks.due("NONE", GongTide.NONE, -1);
        Checks.due("UNKNOWN", GongTide.UNKNOWN, -101);
        Checks.due("OUTSIDE", GongTide.OUTSIDE, -102);
        Checks.due("STATE", GongTide.STATE, -103);
        Checks.due("FULL", GongTide.FULL, -104);
    }

    private static void methods() {
        TreeSet<String> found = new TreeSet<>();
        TreeSet<String> due = new TreeSet<>(java.util.List.of(FACE.split(" ")));
        for (Method m : GongTide.class.getDeclaredMethods()) {
            if (Modifier.isPublic(m.getModifiers())) {
                StringBuilder name = new StringBuilder(m.getName()).append('(');
                String comma = "";
                for (Class<?> type : m.getParameterTypes()) {
                    name.append(comma).append(type.getName());
                    comma = ",";
                }
                found.add(name.append(')').append(m.getReturnType().getName()).toString());
            }
        }
        Checks.due("the public methods", found.toString(), due.toString());
    }

    private static void members() {
        Checks.due("public and final", GongTide.class.getModifiers(), Modifier.PUBLIC | Modifier.FINAL);
        Constructor<?>[] constructors = GongTide.class.getDeclaredConstructors();
        Checks.due("constructors", constructors.length, 1);
        Checks.due("the constructor is public", constructors[0].getModifiers(), Modifier.PUBLIC);
        Checks.due("its parameters", constructors[0].getParameterCount(), 0);
        int publicFields = 0;
        TreeSet<String> faceNames = new TreeSet<>();
        for (String method : FACE.split(" ")) {
            faceNames.add(method.substring(0, method.indexOf('(')));
        }
        for (Field f : GongTide.class.getDeclaredFields()) {
            int m = f.getModifiers();
            publicFields += Modifier.isPublic(m) ? 1 : 0;
            Checks.due(f.getName() + " is public or private", Modifier.isPublic(m) || Modifier.isPrivate(m) ? 1 : 0, 1);
        }
        Checks.due("public fields", publicFields, 5);
        methodsOf(GongTide.class, faceNames);
        fieldsOf(GongTide.class);
        for (Class<?> inside : GongTide.class.getDeclaredClasses()) {
            int m = inside.getModifiers();
            Checks.due(inside + " is static", Modifier.isStatic(m) ? 1 : 0, 1);
            Checks.due(inside + " is public or protected", Modifier.isPublic(m) || Modifier.isProtected(m) ? 1 : 0, 0);
            methodsOf(inside, faceNames);
            fieldsOf(inside);
        }
    }

    private static void methodsOf(Class<?> type, TreeSet<String> faceNames) {
        for (Method m : type.getDeclaredMethods()) {
            if (!Modifier.isPublic(m.getModifiers())) {
                Checks.due(m + " bears a public name", faceNames.contains(m.getName()) ? 1 : 0, 0);
                Checks.due(m + " has more than seven parameters", m.getParameterCount() > 7 ? 1 : 0, 0);
                if (type == GongTide.class) {
                    Checks.due(m + " is private", Modifier.isPrivate(m.getModifiers()) ? 1 : 0, 1);
                }
            }
        }
    }

    private static void fieldsOf(Class<?> type) {
        int own = 0;
        for (Field f : type.getDeclaredFields()) {
            boolean isStatic = Modifier.isStatic(f.getModifiers());
            own += isStatic ? 0 : 1;
            if (isStatic) {
                Checks.due(f + " is a constant",
                        Modifier.isFinal(f.getModifiers()) && STATIC_TYPES.contains(f.getType()) ? 1 : 0, 1);
            }
        }
        Checks.due("too many fields of " + type, own > MOST_FIELDS ? own : 0, 0);
    }

    private static void signs(String source) {
        for (int i = 0; i < source.length(); i++) {
            if (source.charAt(i) > 127) {
                Checks.due("the sign at " + i, source.charAt(i), 127);
            }
        }
    }

    private static void wordsRuledOut(String code) {
        String[] ruledOut = {"package ", "import ", "->", "::", "finally", "synchronized", "assert", "catch",
            "instanceof", "System.", "Random", "Thread", "Exact(", "Exception", "static {", "hashCode", "toString",
            "throw", "\"", "native", "volatile", "@"};
        for (String word : ruledOut) {
            Checks.due("places of '" + word + "'", code.indexOf(word), -1);
        }
    }

    /** Rule 4: whatever stands behind the name of a class is a call of the library. */
    private static void library(String code) {
        Matcher call = Pattern.compile("\\b([A-Z]\\w*[a-z]\\w*\\.\\w+)").matcher(code);
        while (call.find()) {
            Checks.due(call.group(1), LIBRARY.contains(call.group(1)) ? "allowed" : "not allowed", "allowed");
        }
    }

    /** Rule 7: the class divides by constants alone, of which none is 0. */
    private static void divisors(String code) throws ReflectiveOperationException {
        Matcher divisor = Pattern.compile("[/%]=?\\s*(\\S)(\\w*)").matcher(code);
        while (divisor.find()) {
            String name = divisor.group(1) + divisor.group(2);
            boolean isNumber = name.matches("[1-9]\\d*");
            Checks.due("divisor " + name, isNumber || name.matches("[A-Z][A-Z_]*") ? "constant" : "not", "constant");
            if (!isNumber) {
                Field constant = GongTide.class.getDeclaredField(name);
                constant.setAccessible(true);
                Checks.due(name + " is 0", ((Number) constant.get(null)).longValue() == 0 ? 1 : 0, 0);
            }
        }
    }

    /** Rule 12, and the room of a run: objects and arrays are made with their owner, and by no call. */
    private static void objectsMade(String code) {
        for (String line : code.split("\n")) {
            if (line.matches(".*\\bnew\\b.*")) {
                Checks.due(line.trim(), line.matches(" +(private )?final .*;") ? "a field" : "none", "a field");
            }
        }
    }

    /** Rule 11. */
    private static void lengths(String code) {
        int classes = Pattern.compile("\\b(class|enum|record|interface) ").split(code).length - 1;
        Checks.due("too many classes", classes > MOST_CLASSES ? classes : 0, 0);
        Matcher method = Pattern.compile("(?ms)^( +)[^ =;][^=;\\n]*\\) \\{\\n.*?^\\1\\}$").matcher(code);
        int methods = 0;
        while (method.find()) {
            methods++;
            int lines = method.group().split("\n").length;
            Checks.due("lines of " + method.group().split("\n")[0].trim(), lines > MOST_METHOD_LINES ? lines : 0, 0);
        }
        Checks.due("methods found", methods >= GongTide.class.getDeclaredMethods().length ? 1 : 0, 1);
    }
}
