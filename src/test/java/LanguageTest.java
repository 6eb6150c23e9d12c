import java.io.IOException;
import java.lang.reflect.Constructor;
import java.lang.reflect.Field;
import java.lang.reflect.Method;
import java.lang.reflect.Modifier;
import java.nio.charset.StandardCharsets;
import java.nio.file.Files;
import java.nio.file.Path;
import java.util.Arrays;
import java.util.Set;
import java.util.TreeSet;
import java.util.regex.Matcher;
import java.util.regex.Pattern;

/** Looks for what ../shared/LANGUAGE.md rules out, as far as the source's text and its classes tell. */
public final class LanguageTest {
    private static final String[] FACE = {
        "int sound(int,int,int) IllegalArgumentException IllegalStateException",
        "boolean wreck(int,boolean) IllegalArgumentException",
        "int crossing(int,int) IllegalArgumentException",
        "int weather(int) IllegalArgumentException IllegalStateException",
        "int pass(int) IllegalArgumentException IllegalStateException",
        "int make(int,int,int) IllegalArgumentException IllegalStateException",
        "int lay(int,int,int) IllegalArgumentException IllegalStateException",
        "int repeater() IllegalStateException",
        "int takeUp(int) IllegalArgumentException IllegalStateException",
        "void feed(int,int) IllegalArgumentException",
        "int fault(int,int) IllegalArgumentException IllegalStateException",
        "boolean net(int) IllegalArgumentException IllegalStateException",
        "int measure(boolean,boolean,int) IllegalArgumentException IllegalStateException",
        "int mend(int,int) IllegalArgumentException IllegalStateException",
        "int link(int,int,int) IllegalArgumentException IllegalStateException",
        "boolean dead(int,boolean) IndexOutOfBoundsException IllegalArgumentException",
        "int demand(int,int,int) IllegalArgumentException IllegalStateException",
        "int restore()",
        "int way(int) IndexOutOfBoundsException",
        "boolean isLit(int) IndexOutOfBoundsException",
        "int day()",
        "int waves()",
        "boolean canWork()",
        "int cell(int,int) IllegalArgumentException",
        "int tension(int,int) IllegalArgumentException",
        "int tank(int,int) IllegalArgumentException",
        "int line(int) IllegalArgumentException",
        "int thing(int,int) IndexOutOfBoundsException IllegalArgumentException",
        "int metre(int) IndexOutOfBoundsException",
        "int metreAnew(int) IndexOutOfBoundsException",
        "int margin()",
        "int earth()",
        "boolean isFed()",
        "boolean works()",
        "int ofFault(int,int) IndexOutOfBoundsException IllegalArgumentException",
        "int faults()",
        "boolean isKept()",
    };
    private static final String[] RULED_OUT = {
        "->", "::", "\\bcatch\\b", "\\btry\\b", "\\bfinally\\b", "\\bsynchronized\\b", "\\bassert\\b", "\\bdouble\\b",
        "\\bfloat\\b", "\\bpackage\\b", "\"\\s*\\+", "\\+\\s*\"", "Exact\\b", "\\bSystem\\.(?!arraycopy)", "\\bThread\\b",
        "\\bRandom\\b", "\\bObject\\b", "\\btoString\\b", "\\bhashCode\\b", "[^\\x00-\\x7f]",
        "\\bstatic (?!final|class|abstract)[\\w\\[\\]]+ \\w+( =|;)",
    };

    private static int wrong;

    public static void main(String[] args) throws IOException {
        checkFace();
        if (args.length > 0) {
            String source = Files.readString(Path.of(args[0]), StandardCharsets.UTF_8);
            checkText(source);
            checkMethods(source);
        }
        if (wrong > 0) {
            System.exit(1);
        }
    }

    private static void tell(String fault) {
        wrong++;
        System.out.println(fault);
    }

    private static void checkFace() {
        Set<String> due = new TreeSet<>(Arrays.asList(FACE));
        Set<String> open = new TreeSet<>();
        Set<String> openNames = new TreeSet<>();
        Set<String> hidden = new TreeSet<>();
        for (Method each : CableShip.class.getDeclaredMethods()) {
            if (Modifier.isPrivate(each.getModifiers())) {
                hidden.add(each.getName());
            } else {
                open.add(textOf(each));
                openNames.add(each.getName());
            }
        }
        if (!open.equals(due)) {
            tell("the face is " + open);
        }
        hidden.retainAll(openNames);
        if (!hidden.isEmpty()) {
            tell("private methods with public names: " + hidden);
        }
        checkFieldsAndClasses();
    }

    private static void checkFieldsAndClasses() {
        Set<String> fields = new TreeSet<>();
        int own = 0;
        for (Field each : CableShip.class.getDeclaredFields()) {
            boolean isStatic = Modifier.isStatic(each.getModifiers());
            own += isStatic ? 0 : 1;
            if (isStatic && !Modifier.isFinal(each.getModifiers())) {
                tell("a static field is not final: " + each.getName());
            }
            if (!Modifier.isPrivate(each.getModifiers())) {
                fields.add(each.getName());
            }
        }
        if (!fields.equals(new TreeSet<>(Arrays.asList("NONE", "SPAN", "JOINT", "REPEATER", "SHUNT", "BREAK")))) {
            tell("the fields of the face are " + fields);
        }
        if (own > 20) {
            tell("the class has " + own + " fields");
        }
        Constructor<?>[] made = CableShip.class.getDeclaredConstructors();
        if (made.length != 1 || made[0].getParameterCount() != 0 || !Modifier.isFinal(CableShip.class.getModifiers())) {
            tell("the class is not final with one constructor");
        }
        Class<?>[] inside = CableShip.class.getDeclaredClasses();
        if (inside.length > 11) {
            tell("the file has " + (inside.length + 1) + " classes");
        }
        for (Class<?> each : inside) {
            if (!Modifier.isStatic(each.getModifiers()) || Modifier.isPublic(each.getModifiers())) {
                tell("a class inside is public, or not static: " + each.getSimpleName());
            }
        }
    }

    private static String textOf(Method method) {
        StringBuilder text = new StringBuilder(method.getReturnType().getSimpleName());
        text.append(' ').append(method.getName()).append('(');
        for (Class<?> each : method.getParameterTypes()) {
            text.append(text.charAt(text.length() - 1) == '(' ? "" : ",").append(each.getSimpleName());
        }
        text.append(')');
        for (Class<?> each : method.getExceptionTypes()) {
            text.append(' ').append(each.getSimpleName());
        }
        return text.toString();
    }

    private static void checkText(String source) {
        String bare = source.replaceAll("(?s)/\\*.*?\\*/", "").replaceAll("//[^\n]*", "");
        for (String each : RULED_OUT) {
            Matcher found = Pattern.compile(each).matcher(bare);
            if (found.find()) {
                tell("ruled out: " + each + " in " + found.group());
            }
        }
        Matcher imported = Pattern.compile("import ([^;]+);").matcher(bare);
        while (imported.find()) {
            if (!imported.group(1).equals("java.util.Arrays")) {
                tell("imported: " + imported.group(1));
            }
        }
    }

    /** By the indentation that the file keeps to: a method begins and ends at the same depth. */
    private static void checkMethods(String source) {
        String[] lines = source.split("\n");
        Pattern head = Pattern.compile("^( {4}| {8})(?! )[^=;]*\\(([^)]*)\\)[^;=]*\\{$");
        for (int i = 0; i < lines.length; i++) {
            Matcher found = head.matcher(lines[i]);
            if (found.find()) {
                int end = i;
                while (end < lines.length && !lines[end].equals(found.group(1) + "}")) {
                    end++;
                }
                if (end - i > 60) {
                    tell("a method of " + (end - i) + " lines: " + lines[i].trim());
                }
                if (found.group(2).split(",").length > 7) {
                    tell("too many parameters: " + lines[i].trim());
                }
            }
        }
    }
}
