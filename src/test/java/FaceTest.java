import java.lang.reflect.Constructor;
import java.lang.reflect.Field;
import java.lang.reflect.Method;
import java.lang.reflect.Modifier;
import java.nio.file.Files;
import java.nio.file.Path;
import java.util.TreeSet;

/** The face of the document, and rules of LANGUAGE.md that a test can see. */
public final class FaceTest {
    private static final String FACE = "about(int,int)int as(int,int)int ask(int)int best(int,int)int blank()int "
            + "colony()int count(int)int digest()long dinner(int,int)int fault()int felt(int,int)int forget()int "
            + "hear(int,int,int,int)int hours()int image()int letter(int)int raise(int,int)int restore()int "
            + "stroke(int,int)int strike(int,int)int tide(int)int weeks(int,int,int)int";

    public static void main(String[] args) throws Exception {
        constants();
        methods();
        members();
        source(Files.readString(Path.of(args[0], "src/main/java/GongTide.java")));
        Checks.end();
    }

    private static void constants() {
        Checks.due("NONE", GongTide.NONE, -1);
        Checks.due("UNKNOWN", GongTide.UNKNOWN, -101);
        Checks.due("OUTSIDE", GongTide.OUTSIDE, -102);
        Checks.due("STATE", GongTide.STATE, -103);
        Checks.due("FULL", GongTide.FULL, -104);
    }

    private static void methods() {
        TreeSet<String> found = new TreeSet<>();
        TreeSet<String> due = new TreeSet<>(java.util.List.of(FACE.split(" ")));
        for (Method m : GongTide.class.getDeclaredMethods()) {
            if (Modifier.isPublic(m.getModifiers())) {
                StringBuilder name = new StringBuilder(m.getName()).append('(');
                String comma = "";
                for (Class<?> type : m.getParameterTypes()) {
                    name.append(comma).append(type.getName());
                    comma = ",";
                }
                found.add(name.append(')').append(m.getReturnType().getName()).toString());
            }
        }
        Checks.due("the public methods", found.toString(), due.toString());
    }

    private static void members() {
        Checks.due("public and final", GongTide.class.getModifiers(), Modifier.PUBLIC | Modifier.FINAL);
        Constructor<?>[] constructors = GongTide.class.getDeclaredConstructors();
        Checks.due("constructors", constructors.length, 1);
        Checks.due("the constructor is public", constructors[0].getModifiers(), Modifier.PUBLIC);
        Checks.due("its parameters", constructors[0].getParameterCount(), 0);
        int publicFields = 0;
        TreeSet<String> faceNames = new TreeSet<>();
        for (String method : FACE.split(" ")) {
            faceNames.add(method.substring(0, method.indexOf('(')));
        }
        for (Field f : GongTide.class.getDeclaredFields()) {
            int m = f.getModifiers();
            publicFields += Modifier.isPublic(m) ? 1 : 0;
            Checks.due(f.getName() + " is public or private", Modifier.isPublic(m) || Modifier.isPrivate(m) ? 1 : 0, 1);
            Checks.due(f.getName() + " is final, if static", !Modifier.isStatic(m) || Modifier.isFinal(m) ? 1 : 0, 1);
        }
        Checks.due("public fields", publicFields, 5);
        methodsOf(GongTide.class, faceNames);
        for (Class<?> inside : GongTide.class.getDeclaredClasses()) {
            Checks.due(inside + " is static", Modifier.isStatic(inside.getModifiers()) ? 1 : 0, 1);
            methodsOf(inside, faceNames);
        }
    }

    private static void methodsOf(Class<?> type, TreeSet<String> faceNames) {
        for (Method m : type.getDeclaredMethods()) {
            if (!Modifier.isPublic(m.getModifiers())) {
                Checks.due(m + " bears a public name", faceNames.contains(m.getName()) ? 1 : 0, 0);
                Checks.due(m + " has more than seven parameters", m.getParameterCount() > 7 ? 1 : 0, 0);
                if (type == GongTide.class) {
                    Checks.due(m + " is private", Modifier.isPrivate(m.getModifiers()) ? 1 : 0, 1);
                }
            }
        }
    }

    private static void source(String source) {
        String code = source.replaceAll("(?s)/\\*.*?\\*/", "").replaceAll("//[^\n]*", "");
        String[] ruledOut = {"package ", "import ", "->", "::", "finally", "synchronized", "assert", "catch",
            "instanceof", "System.", "Random", "Thread", "Exact(", "Exception", "static {", "hashCode", "toString"};
        for (String word : ruledOut) {
            Checks.due("places of '" + word + "'", code.indexOf(word), -1);
        }
        for (int i = 0; i < source.length(); i++) {
            if (source.charAt(i) > 127) {
                Checks.due("the sign at " + i, source.charAt(i), 127);
            }
        }
    }
}
