import java.io.IOException;
import java.lang.reflect.Constructor;
import java.lang.reflect.Field;
import java.lang.reflect.Method;
import java.lang.reflect.Modifier;
import java.nio.file.Files;
import java.nio.file.Path;
import java.util.Set;
import java.util.TreeSet;
import java.util.regex.Matcher;
import java.util.regex.Pattern;

/** The public face, and the rules of LANGUAGE.md that can be seen in the classes or in the source text. */
public final class LanguageTest {
    private static final Path SOURCE = Path.of("src/main/java/TalkHouse.java");
    private static final String[] FACE = {
        "int own(int,int)", "int join(int,int,int)", "int leave(int,int)", "int tick(int)", "int feed(long,int)",
        "int blank()", "int write(int,int,int,int)", "int send(int,int)", "int out(int,int,int)",
        "int entry(int,int,int)", "int isOf(int,int,int)", "int maySee(int,int,int)", "int text(int,int,int,int)",
        "int kept(int,int,int)", "int take(int,int,int)", "int gap(int,int)", "int ask(int,int,int)",
        "int shows(int,int,int,int)", "int quoted(int,int,int)", "int behind(int,int)", "long sum(int,int)",
        "int mark(int,int,int)", "int unread(int,int)", "int find(int,int,int)", "int thread(int,int,int,int)",
        "int hold(int,int,int)", "int age(int,int)", "int count(int)"};
    private static final String[] CONSTANTS = {"BAD", "FULL", "NO", "NONE"};
    private static final String[] FORBIDDEN = {
        "\\bthrow\\b", "\\bthrows\\b", "\\btry\\b", "\\bcatch\\b", "\\bsynchronized\\b", "\\bassert\\b", "->", "::",
        "\\bpackage\\b", "\\bpublic\\s+(?!final class TalkHouse|static final int BAD|TalkHouse\\(\\)|int |long )",
        "\\bprotected\\b", "\\bObject\\b", "\\bMap\\b", "\\bSystem\\.(?!arraycopy)", "Exact\\b", "\\bvar\\b",
        "\\bimport (?!java\\.util\\.(Arrays|ArrayList|List|Iterator);)", "\\.hashCode\\(", "\\.toString\\("};

    private static int wrong = 0;

    public static void main(String[] args) throws IOException {
        face();
        names();
        sizes();
        source();
        System.out.println(wrong == 0 ? "the language is kept to" : wrong + " rules are broken");
        if (wrong != 0) {
            System.exit(1);
        }
    }

    private static void due(boolean holds, String rule) {
        if (!holds) {
            wrong++;
            System.out.println(rule);
        }
    }

    private static String told(Method m) {
        StringBuilder s = new StringBuilder(m.getReturnType().getName()).append(' ').append(m.getName()).append('(');
        for (int k = 0; k < m.getParameterCount(); k++) {
            s.append(k == 0 ? "" : ",").append(m.getParameterTypes()[k].getName());
        }
        return s.append(')').toString();
    }

    private static void face() {
        Set<String> methods = new TreeSet<>();
        for (Method m : TalkHouse.class.getDeclaredMethods()) {
            if (!Modifier.isPrivate(m.getModifiers())) {
                due(Modifier.isPublic(m.getModifiers()) && !Modifier.isStatic(m.getModifiers()), "rule 1: " + m);
                methods.add(told(m));
            }
        }
        due(methods.equals(new TreeSet<>(Set.of(FACE))), "rule 1: the methods are " + methods);
        Set<String> constants = new TreeSet<>();
        for (Field f : TalkHouse.class.getDeclaredFields()) {
            boolean fixed = Modifier.isStatic(f.getModifiers()) && Modifier.isFinal(f.getModifiers());
            due(fixed || !Modifier.isStatic(f.getModifiers()), "rule 5: " + f);
            if (!Modifier.isPrivate(f.getModifiers())) {
                due(Modifier.isPublic(f.getModifiers()) && fixed && f.getType() == int.class, "rule 1: " + f);
                constants.add(f.getName());
            }
        }
        due(constants.equals(new TreeSet<>(Set.of(CONSTANTS))), "rule 1: the constants are " + constants);
        Constructor<?>[] made = TalkHouse.class.getDeclaredConstructors();
        due(made.length == 1 && made[0].getParameterCount() == 0 && Modifier.isPublic(made[0].getModifiers()),
            "rule 1: the constructor");
        due(Modifier.isFinal(TalkHouse.class.getModifiers()), "rule 1: final");
    }

    private static void names() {
        Set<String> open = new TreeSet<>();
        for (String f : FACE) {
            open.add(f.substring(f.indexOf(' ') + 1, f.indexOf('(')));
        }
        for (Method m : TalkHouse.class.getDeclaredMethods()) {
            due(Modifier.isPublic(m.getModifiers()) || !open.contains(m.getName()), "rule 1: the name of " + m);
        }
        for (Class<?> c : TalkHouse.class.getDeclaredClasses()) {
            due(Modifier.isStatic(c.getModifiers()), "rule 2: static " + c);
            for (Method m : c.getDeclaredMethods()) {
                due(!open.contains(m.getName()), "rule 1: the name of " + m);
            }
            for (Field f : c.getDeclaredFields()) {
                due(!Modifier.isStatic(f.getModifiers()) || Modifier.isFinal(f.getModifiers()), "rule 5: " + f);
            }
        }
    }

    private static void sizes() {
        due(TalkHouse.class.getDeclaredClasses().length <= 11, "rule 11: classes");
        for (Class<?> c : TalkHouse.class.getDeclaredClasses()) {
            due(c.getDeclaredFields().length <= 20, "rule 11: fields of " + c);
            for (Method m : c.getDeclaredMethods()) {
                due(m.getParameterCount() <= 7, "rule 11: parameters of " + m);
            }
            for (Constructor<?> m : c.getDeclaredConstructors()) {
                due(m.getParameterCount() <= 7, "rule 11: parameters of " + m);
            }
        }
    }

    private static void source() throws IOException {
        String source = Files.readString(SOURCE);
        due(source.chars().allMatch(c -> c == '\n' || (c >= 32 && c < 127)), "rule 4: signs of the source");
        String code = source.replaceAll("(?s)/\\*.*?\\*/", "").replaceAll("//[^\n]*", "");
        for (String forbidden : FORBIDDEN) {
            Matcher m = Pattern.compile(forbidden).matcher(code);
            if (m.find()) {
                due(false, "not in the language: " + code.substring(m.start(), Math.min(m.end() + 20, code.length())));
            }
        }
        int length = 0;
        for (String line : code.split("\n")) {
            length = line.matches(" {4,8}(?!if|for|switch|while|\\})\\S.*\\) \\{") ? 0 : length + 1;
            due(!line.matches(" {4,8}\\}") || length <= 60, "rule 11: a method too long, ends with " + line);
        }
    }
}
