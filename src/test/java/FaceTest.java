import java.io.IOException;
import java.lang.reflect.Constructor;
import java.lang.reflect.Field;
import java.lang.reflect.Method;
import java.lang.reflect.Modifier;
import java.nio.file.Files;
import java.nio.file.Path;
import java.util.Set;
import java.util.TreeSet;
import java.util.regex.Matcher;
import java.util.regex.Pattern;

/** The class shows the document's face and no more, and its text keeps off what LANGUAGE.md rules out. */
public final class FaceTest {
    private static final Set<String> METHODS = new TreeSet<>(Set.of(
            "int basin(int)", "int fill(int,int)", "int moon(int)", "int make(int,int,int,int,int,int)",
            "int put(int,int)", "int ask(int,int)", "long given()", "int sluice(int,int,int)", "int run(int,int)",
            "int told(int)", "int level(int)", "int counted(int)", "int count(int)"));
    private static final Set<String> CONSTANTS = new TreeSet<>(Set.of(
            "NONE -1", "UNKNOWN -101", "OUTSIDE -102", "ROOM -103", "MISSING -201", "SPENT -202"));
    private static final Pattern RULED_OUT = Pattern.compile(
            "\\b(throw|throws|try|catch|synchronized|assert|import|package|protected)\\b|->|::");

    private static int wrong = 0;

    private static void due(String what, Object got, Object want) {
        if (!got.equals(want)) {
            wrong++;
            System.out.println(what + ": " + got + ", due is " + want);
        }
    }

    private static String signature(Method method) {
        StringBuilder text = new StringBuilder();
        for (Class<?> type : method.getParameterTypes()) {
            text.append(text.length() == 0 ? "" : ",").append(type.getSimpleName());
        }
        return method.getReturnType().getSimpleName() + " " + method.getName() + "(" + text + ")";
    }

    private static void methods() {
        Set<String> shown = new TreeSet<>();
        Set<String> publicNames = new TreeSet<>();
        for (Method method : SluiceRules.class.getDeclaredMethods()) {
            if (!Modifier.isPrivate(method.getModifiers())) {
                shown.add(signature(method));
                publicNames.add(method.getName());
                due(method + " is public", Modifier.isPublic(method.getModifiers()), true);
                due(method + " is static", Modifier.isStatic(method.getModifiers()), false);
            }
        }
        due("methods", shown, METHODS);
        for (Method method : SluiceRules.class.getDeclaredMethods()) {
            if (Modifier.isPrivate(method.getModifiers())) {
                due(method + " bears a public name", publicNames.contains(method.getName()), false);
            }
        }
    }

    private static void fields() throws IllegalAccessException {
        Set<String> shown = new TreeSet<>();
        for (Field field : SluiceRules.class.getDeclaredFields()) {
            int modifiers = field.getModifiers();
            if (!Modifier.isPrivate(modifiers)) {
                boolean constant = Modifier.isPublic(modifiers) && Modifier.isStatic(modifiers)
                        && Modifier.isFinal(modifiers) && field.getType() == int.class;
                due(field + " is a constant", constant, true);
                shown.add(field.getName() + " " + (constant ? field.getInt(null) : ""));
            }
        }
        due("constants", shown, CONSTANTS);
    }

    private static void classItself() {
        due("class is public and final", SluiceRules.class.getModifiers(), Modifier.PUBLIC | Modifier.FINAL);
        Constructor<?>[] constructors = SluiceRules.class.getDeclaredConstructors();
        due("constructors", constructors.length, 1);
        due("constructor is public", Modifier.isPublic(constructors[0].getModifiers()), true);
        due("constructor's parameters", constructors[0].getParameterCount(), 0);
        for (Class<?> inside : SluiceRules.class.getDeclaredClasses()) {
            due(inside + " is static", Modifier.isStatic(inside.getModifiers()), true);
            due(inside + " is public", Modifier.isPublic(inside.getModifiers()), false);
        }
    }

    private static void text() throws IOException {
        String source = Files.readString(Path.of("src/main/java/SluiceRules.java"));
        String code = source.replaceAll("(?s)/\\*.*?\\*/", "").replaceAll("//[^\n]*", "");
        Matcher found = RULED_OUT.matcher(code);
        while (found.find()) {
            due("text has", found.group(), "");
        }
    }

    public static void main(String[] args) throws IOException, IllegalAccessException {
        methods();
        fields();
        classItself();
        text();
        System.out.println(wrong == 0 ? "the face is as due" : wrong + " things are not as due");
        if (wrong != 0) {
            System.exit(1);
        }
    }
}
