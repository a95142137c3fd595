import java.io.IOException;
import java.lang.reflect.Constructor;
import java.lang.reflect.Field;
import java.lang.reflect.Method;
import java.lang.reflect.Modifier;
import java.nio.file.Files;
import java.nio.file.Path;
import java.util.Set;
import java.util.TreeSet;
import java.util.regex.Matcher;
import java.util.regex.Pattern;

/** The public face, and the rules of LANGUAGE.md that can be seen in the classes or in the source text. */
public final class LanguageTest {
    private static final Path SOURCE = Path.of("src/main/java/TalkHouse.java");
    private static final Path DOCUMENT = Path.of("../shared/DOC.md");
    private static final int METHODS = 28, CONSTANTS = 4;
    private static final String[] FORBIDDEN = {
        "\\bthrow\\b", "\\bthrows\\b", "\\btry\\b", "\\bcatch\\b", "\\bsynchronized\\b", "\\bassert\\b", "->", "::",
        "\\bpackage\\b", "\\bpublic\\s+(?!final class TalkHouse|static final int BAD|TalkHouse\\(\\)|int |long )",
        "\\bprotected\\b", "\\bObject\\b", "\\bMap\\b", "\\bSystem\\.(?!arraycopy)", "Exact\\b", "\\bvar\\b",
        "\\bimport (?!java\\.util\\.(Arrays|ArrayList|List|Iterator);)", "\\.hashCode\\(", "\\.toString\\("};

    private static int wrong = 0;

    public static void main(String[] args) throws IOException {
        String document = Files.readString(DOCUMENT);
        Set<String> methods = methodsOf(document);
        constants(document);
        face(methods);
        names(methods);
        sizes();
        source();
        System.out.println(wrong == 0 ? "the language is kept to" : wrong + " rules are broken");
        if (wrong != 0) {
            System.exit(1);
        }
    }

    private static void due(boolean holds, String rule) {
        if (!holds) {
            wrong++;
            System.out.println(rule);
        }
    }

    private static String told(Method m) {
        StringBuilder s = new StringBuilder(m.getReturnType().getName()).append(' ').append(m.getName()).append('(');
        for (int k = 0; k < m.getParameterCount(); k++) {
            s.append(k == 0 ? "" : ",").append(m.getParameterTypes()[k].getName());
        }
        return s.append(')').toString();
    }

    /** The document's methods, each told as those of the class are. */
    private static Set<String> methodsOf(String document) {
        Set<String> all = new TreeSet<>();
        Matcher m = Pattern.compile("(?m)^    public (int|long) (\\w+)\\((.*)\\);$").matcher(document);
        while (m.find()) {
            all.add(m.group(1) + " " + m.group(2) + "(" + m.group(3).replaceAll(" \\w+(, )?", "$1").replace(", ", ",") + ")");
        }
        due(all.size() == METHODS, "rule 1: the document has " + all.size() + " methods");
        return all;
    }

    private static void constants(String document) {
        Matcher line = Pattern.compile("(?m)^    public static final int (.*);$").matcher(document);
        Set<String> want = new TreeSet<>();
        while (line.find()) {
            want.addAll(Set.of(line.group(1).split(", ")));
        }
        Set<String> got = new TreeSet<>(Set.of("BAD = " + TalkHouse.BAD, "NO = " + TalkHouse.NO,
            "FULL = " + TalkHouse.FULL, "NONE = " + TalkHouse.NONE));
        due(got.size() == CONSTANTS && got.equals(want), "rule 1: the constants are " + got + ", due are " + want);
    }

    private static void face(Set<String> want) {
        Set<String> methods = new TreeSet<>();
        for (Method m : TalkHouse.class.getDeclaredMethods()) {
            if (!Modifier.isPrivate(m.getModifiers())) {
                due(Modifier.isPublic(m.getModifiers()) && !Modifier.isStatic(m.getModifiers()), "rule 1: " + m);
                methods.add(told(m));
            }
        }
        due(methods.equals(want), "rule 1: the methods are " + methods + ", due are " + want);
        int constants = 0;
        for (Field f : TalkHouse.class.getDeclaredFields()) {
            boolean fixed = Modifier.isStatic(f.getModifiers()) && Modifier.isFinal(f.getModifiers());
            due(fixed || !Modifier.isStatic(f.getModifiers()), "rule 5: " + f);
            if (!Modifier.isPrivate(f.getModifiers())) {
                due(Modifier.isPublic(f.getModifiers()) && fixed && f.getType() == int.class, "rule 1: " + f);
                constants++;
            }
        }
        due(constants == CONSTANTS, "rule 1: " + constants + " constants");
        Constructor<?>[] made = TalkHouse.class.getDeclaredConstructors();
        due(made.length == 1 && made[0].getParameterCount() == 0 && Modifier.isPublic(made[0].getModifiers()),
            "rule 1: the constructor");
        due(Modifier.isFinal(TalkHouse.class.getModifiers()), "rule 1: final");
    }

    private static void names(Set<String> methods) {
        Set<String> open = new TreeSet<>();
        for (String f : methods) {
            open.add(f.substring(f.indexOf(' ') + 1, f.indexOf('(')));
        }
        for (Method m : TalkHouse.class.getDeclaredMethods()) {
            due(Modifier.isPublic(m.getModifiers()) || !open.contains(m.getName()), "rule 1: the name of " + m);
        }
        for (Class<?> c : TalkHouse.class.getDeclaredClasses()) {
            due(Modifier.isStatic(c.getModifiers()), "rule 2: static " + c);
            for (Method m : c.getDeclaredMethods()) {
                due(!open.contains(m.getName()), "rule 1: the name of " + m);
            }
            for (Field f : c.getDeclaredFields()) {
                due(!Modifier.isStatic(f.getModifiers()) || Modifier.isFinal(f.getModifiers()), "rule 5: " + f);
            }
        }
    }

    private static void sizes() {
        due(TalkHouse.class.getDeclaredClasses().length <= 11, "rule 11: classes");
        sizesOf(TalkHouse.class);
        for (Class<?> c : TalkHouse.class.getDeclaredClasses()) {
            sizesOf(c);
        }
    }

    private static void sizesOf(Class<?> c) {
        int fields = 0;
        for (Field f : c.getDeclaredFields()) {
            fields += Modifier.isStatic(f.getModifiers()) ? 0 : 1;
        }
        due(fields <= 20, "rule 11: fields of " + c);
        for (Method m : c.getDeclaredMethods()) {
            due(m.getParameterCount() <= 7, "rule 11: parameters of " + m);
        }
        for (Constructor<?> m : c.getDeclaredConstructors()) {
            due(m.getParameterCount() <= 7, "rule 11: parameters of " + m);
        }
    }

    private static void source() throws IOException {
        String source = Files.readString(SOURCE);
        due(source.chars().allMatch(c -> c == '\n' || (c >= 32 && c < 127)), "rule 4: signs of the source");
        String code = source.replaceAll("(?s)/\\*.*?\\*/", "").replaceAll("//[^\n]*", "");
        for (String forbidden : FORBIDDEN) {
            Matcher m = Pattern.compile(forbidden).matcher(code);
            if (m.find()) {
                due(false, "not in the language: " + code.substring(m.start(), Math.min(m.end() + 20, code.length())));
            }
        }
        int length = 0;
        for (String line : code.split("\n")) {
            length = line.matches(" {4,8}(?!if|for|switch|while|\\})\\S.*\\) \\{") ? 0 : length + 1;
            due(!line.matches(" {4,8}\\}") || length <= 60, "rule 11: a method too long, ends with " + line);
        }
    }
}
