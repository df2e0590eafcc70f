import java.io.IOException;
import java.lang.reflect.Constructor;
import java.lang.reflect.Field;
import java.lang.reflect.Method;
import java.lang.reflect.Modifier;
import java.nio.file.Files;
import java.nio.file.Path;
import java.util.ArrayList;
import java.util.List;
import java.util.Set;
import java.util.TreeSet;
import java.util.regex.Matcher;
import java.util.regex.Pattern;

/** The face as DOC.md writes it, and what can be seen of LANGUAGE.md in the source and in the classes. */
public final class RulesTest {
    private static int wrong;

    public static void main(String[] args) throws IOException {
        face(Files.readString(Path.of("../shared/DOC.md")));
        for (Class<?> inner : Rainledger.class.getDeclaredClasses()) {
            need(Modifier.isStatic(inner.getModifiers()) && Modifier.isPrivate(inner.getModifiers()), inner + " is private and static");
            need(inner.getDeclaredClasses().length == 0, inner + " has no class inside");
            members(inner);
        }
        members(Rainledger.class);
        need(Rainledger.class.getDeclaredClasses().length <= 11, "at most 12 classes");
        String source = Files.readString(Path.of("src/main/java/Rainledger.java"));
        need(source.chars().allMatch(c -> c == '\n' || c >= ' ' && c < 127), "plain characters alone");
        words(source.replaceAll("(?s)/\\*.*?\\*/", "").replaceAll("//[^\n]*", ""));
        methods(source);
        System.out.println(wrong == 0 ? "face and rules are kept" : wrong + " rules are not kept");
        if (wrong != 0) {
            System.exit(1);
        }
    }

    private static void need(boolean isKept, String what) {
        if (!isKept) {
            wrong++;
            System.out.println("not kept: " + what);
        }
    }

    private static void face(String document) {
        Set<String> due = new TreeSet<>();
        Set<String> names = new TreeSet<>();
        Matcher face = Pattern.compile("(?s)```java\n(.*?)```").matcher(document);
        need(face.find(), "the document has a face");
        Matcher method = Pattern.compile("public (\\w+) (\\w+)\\((.*?)\\)(?: throws (.*?))?;").matcher(face.group(1));
        while (method.find()) {
            String types = method.group(3).replaceAll("(\\w+) \\w+", "$1");
            due.add(method.group(1) + " " + method.group(2) + "(" + types + ") " + (method.group(4) == null ? "" : method.group(4)));
            names.add(method.group(2));
        }
        Set<String> got = new TreeSet<>();
        for (Method one : Rainledger.class.getDeclaredMethods()) {
            if (Modifier.isPrivate(one.getModifiers())) {
                need(!names.contains(one.getName()), "no private method is called " + one.getName());
                continue;
            }
            need(one.getModifiers() == Modifier.PUBLIC, one + " is public alone");
            got.add(one.getReturnType().getSimpleName() + " " + one.getName() + "(" + simple(one.getParameterTypes()) + ") "
                + simple(one.getExceptionTypes()));
        }
        need(due.size() == 46, "the face has 46 methods");
        need(due.equals(got), "the methods are those of the face: " + due + " / " + got);
        need(Rainledger.class.getModifiers() == (Modifier.PUBLIC | Modifier.FINAL), "the class is public and final");
        Constructor<?>[] made = Rainledger.class.getDeclaredConstructors();
        need(made.length == 1 && made[0].getModifiers() == Modifier.PUBLIC && made[0].getParameterCount() == 0, "one constructor");
        for (Class<?> inner : Rainledger.class.getDeclaredClasses()) {
            for (Method one : inner.getDeclaredMethods()) {
                need(!names.contains(one.getName()), "no method of " + inner + " is called " + one.getName());
            }
        }
    }

    private static String simple(Class<?>[] types) {
        List<String> names = new ArrayList<>();
        for (Class<?> type : types) {
            names.add(type.getSimpleName());
        }
        return String.join(", ", names);
    }

    private static void members(Class<?> of) {
        int fields = 0;
        for (Field field : of.getDeclaredFields()) {
            boolean isStatic = Modifier.isStatic(field.getModifiers());
            fields += isStatic ? 0 : 1;
            need(Modifier.isPrivate(field.getModifiers()), field + " is private");
            need(!isStatic || Modifier.isFinal(field.getModifiers()), field + " is final");
        }
        need(fields <= 20, of + " has at most 20 fields");
        for (Method method : of.getDeclaredMethods()) {
            need(method.getParameterCount() <= 7, method + " has at most 7 parameters");
            need(!method.isSynthetic(), method + " is written out");
        }
    }

    private static void words(String code) {
        String[] none = {"\\btry\\b", "\\bcatch\\b", "\\bfinally\\b", "->", "::", "synchronized", "\\bassert\\b", "Exact\\b",
            "\" *\\+", "\\+ *\"", "\\+= *\"", "\\bdouble\\b", "\\bfloat\\b", "random", "currentTime", "nanoTime", "toString\\(\\) *\\{",
            "\\bhashCode\\b", "\\bequals\\b", "\\bobject\\b", "\\bpackage\\b", "\\bprotected\\b", "\\bstatic *\\{", "\\bvar\\b",
            "import (?!java\\.util\\.(ArrayList|Arrays);)", "throw (?!new (IllegalArgument|IllegalState|IndexOutOfBounds)Exception\\(\"[^\"]+\"\\);)",
            "Arrays\\.(?!copyOf\\()", "Math\\.(?!(min|max|abs|floorDiv|floorMod)\\()", "Integer\\.(?!bitCount\\()", "Long\\.",
            "String\\.", "System\\.(?!arraycopy\\()", "\\bfor \\([^;)]*:"};
        for (String one : none) {
            Matcher found = Pattern.compile(one).matcher(code);
            need(!found.find(), "none of " + one);
        }
    }

    private static void methods(String source) {
        Matcher method = Pattern.compile("(?m)^( {4}| {8})[a-zA-Z][^=;{}]*\\)[^=;{}]*\\{$").matcher(source);
        int many = 0;
        while (method.find()) {
            int end = source.indexOf("\n" + method.group(1) + "}", method.end());
            long lines = source.substring(method.start(), end).lines().count() + 1;
            if (!method.group().matches("(?s) *(for|while|if|switch) .*")) {
                many++;
                need(lines <= 60, method.group().trim() + " has at most 60 lines, not " + lines);
            }
        }
        need(many > 100, "the methods are found: " + many);
    }
}
