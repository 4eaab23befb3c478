import java.io.IOException;
import java.lang.reflect.Constructor;
import java.lang.reflect.Field;
import java.lang.reflect.Method;
import java.lang.reflect.Modifier;
import java.nio.file.Files;
import java.nio.file.Path;
import java.util.List;
import java.util.TreeSet;
import java.util.regex.Matcher;
import java.util.regex.Pattern;

/** The section "The public face": the class has what ../shared/DOC.md prints there, and nothing else to see. */
public final class FaceTest {
    private static final Pattern MEMBER = Pattern.compile(
        "\\s*public (?:(\\w+) )?(\\w+)\\((.*?)\\)(?: throws (.*))?;");

    public static void main(String[] args) throws IOException {
        sameAsPrinted(printed(Files.readAllLines(Path.of("../shared/DOC.md"))), found());
        isOnePlainClass();
        hidesTheRest();
        noPrivateMethodWithAPublicName();
        Expect.end();
    }

    private static TreeSet<String> printed(List<String> lines) {
        TreeSet<String> members = new TreeSet<>();
        for (String line : lines) {
            Matcher matcher = MEMBER.matcher(line);
            if (matcher.matches()) {
                String thrown = matcher.group(4) == null ? "" : matcher.group(4);
                members.add(matcher.group(1) + " " + matcher.group(2) + "(" + types(matcher.group(3)) + ") " + thrown);
            }
        }
        return members;
    }

    private static String types(String parameters) {
        StringBuilder types = new StringBuilder();
        for (String parameter : parameters.split(", ")) {
            types.append(types.length() == 0 ? "" : ", ").append(parameter.split(" ")[0]);
        }
        return types.toString();
    }

    private static TreeSet<String> found() {
        TreeSet<String> members = new TreeSet<>();
        for (Constructor<?> each : Towerliftry.class.getConstructors()) {
            members.add("null Towerliftry(" + names(each.getParameterTypes()) + ") " + names(each.getExceptionTypes()));
        }
        for (Method each : Towerliftry.class.getDeclaredMethods()) {
            if (Modifier.isPublic(each.getModifiers())) {
                members.add(each.getReturnType().getSimpleName() + " " + each.getName()
                    + "(" + names(each.getParameterTypes()) + ") " + names(each.getExceptionTypes()));
            }
        }
        return members;
    }

    private static String names(Class<?>[] types) {
        StringBuilder names = new StringBuilder();
        for (Class<?> each : types) {
            names.append(names.length() == 0 ? "" : ", ").append(each.getSimpleName());
        }
        return names.toString();
    }

    private static void sameAsPrinted(TreeSet<String> printed, TreeSet<String> found) {
        Expect.same("the constructor and 32 methods are printed", printed.size(), 33);
        for (String each : printed) {
            Expect.same("has " + each, found.contains(each), true);
        }
        for (String each : found) {
            Expect.same("prints " + each, printed.contains(each), true);
        }
    }

    private static void isOnePlainClass() {
        int modifiers = Towerliftry.class.getModifiers();
        Expect.same("public", Modifier.isPublic(modifiers), true);
        Expect.same("final", Modifier.isFinal(modifiers), true);
        Expect.same("no package", Towerliftry.class.getName().equals("Towerliftry"), true);
        Expect.same("no class above it", Towerliftry.class.getSuperclass() == Object.class, true);
        Expect.same("no interfaces", Towerliftry.class.getInterfaces().length, 0);
        Expect.same("one constructor", Towerliftry.class.getDeclaredConstructors().length, 1);
    }

    private static void hidesTheRest() {
        for (Field each : Towerliftry.class.getDeclaredFields()) {
            Expect.same("private: " + each.getName(), Modifier.isPrivate(each.getModifiers()), true);
            if (Modifier.isStatic(each.getModifiers())) {
                Expect.same("final: " + each.getName(), Modifier.isFinal(each.getModifiers()), true);
            }
        }
        for (Method each : Towerliftry.class.getDeclaredMethods()) {
            int modifiers = each.getModifiers();
            Expect.same("public or private: " + each.getName(),
                Modifier.isPublic(modifiers) || Modifier.isPrivate(modifiers), true);
            Expect.same("not static, if public: " + each.getName(),
                Modifier.isPublic(modifiers) && Modifier.isStatic(modifiers), false);
        }
        for (Class<?> each : Towerliftry.class.getDeclaredClasses()) {
            int modifiers = each.getModifiers();
            Expect.same("hidden: " + each.getName(),
                Modifier.isPublic(modifiers) || Modifier.isProtected(modifiers), false);
            Expect.same("static: " + each.getName(), Modifier.isStatic(modifiers), true);
        }
    }

    private static void noPrivateMethodWithAPublicName() {
        for (Method hidden : Towerliftry.class.getDeclaredMethods()) {
            for (Method seen : Towerliftry.class.getMethods()) {
                Expect.same("a private " + seen.getName(),
                    Modifier.isPrivate(hidden.getModifiers()) && hidden.getName().equals(seen.getName()), false);
            }
        }
    }
}
