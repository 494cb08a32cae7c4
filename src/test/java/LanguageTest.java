import java.io.IOException;
import java.lang.reflect.Constructor;
import java.lang.reflect.Field;
import java.lang.reflect.Method;
import java.lang.reflect.Modifier;
import java.nio.file.Files;
import java.nio.file.Path;
import java.util.Arrays;
import java.util.Set;
import java.util.TreeSet;
import java.util.regex.Matcher;
import java.util.regex.Pattern;

/** The face, and those rules of LANGUAGE.md that can be looked for in the class and in its text. */
public final class LanguageTest {
    private static final String[] FACE = {"int letter(int)", "int blank()", "int fault()", "int valley()",
        "int person(int,int)", "int as(int,int)", "int pail(int,int)", "int slight(int,int)", "int soothe(int)",
        "int sit(int,int)", "int night()", "int curdle()", "int fresh(int)", "int force(int)", "int keep(int,int)",
        "int pour(int,int)", "int bottle(int)", "int would()", "int few(int,int)", "int week(int,int)", "int who(int)",
        "int see(int,int,int)", "int forget()", "int weeks(int,int,int)", "int image()", "int restore()",
        "int count(int)", "long digest()"};
    private static final Set<String> CONSTANTS = Set.of("NONE", "UNKNOWN", "OUTSIDE", "STATE", "FULL");
    private static final String[] RULED_OUT = {"\\bthrow\\b", "\\bthrows\\b", "\\btry\\b", "\\bcatch\\b",
        "\\bsynchronized\\b", "\\bassert\\b", "->", "::", "\\bprotected\\b", "\\btransient\\b", "\\bvolatile\\b",
        "\\bequals\\b", "\\bhashCode\\b", "\\btoString\\b", "Exact\\b", "\\bRandom\\b", "\\bThread\\b", "\\bObject\\b",
        "\\bstatic\\s*\\{", "^\\s*package\\b", "\\bString\\.", "\\bvar\\b", "System\\.(?!arraycopy\\b)",
        "Arrays\\.(?!(fill|copyOf|copyOfRange)\\b)", "import (?!java\\.util\\.Arrays;)"};
    private static int wrong = 0;
    private static int asked = 0;

    private static void holds(boolean is, String rule) {
        asked++;
        if (!is) {
            wrong++;
            System.out.println("not so: " + rule);
        }
    }

    public static void main(String[] args) throws IOException {
        face();
        for (Class<?> inside : GrudgeRennet.class.getDeclaredClasses()) {
            classInside(inside);
        }
        holds(GrudgeRennet.class.getDeclaredClasses().length <= 11, "some twelve classes at most");
        text(Files.readString(Path.of("src/main/java/GrudgeRennet.java")));
        System.out.println("LanguageTest: " + asked + " rules, " + wrong + " not kept");
        if (wrong != 0) {
            System.exit(1);
        }
    }

    private static void face() {
        Class<GrudgeRennet> c = GrudgeRennet.class;
        holds(Modifier.isPublic(c.getModifiers()) && Modifier.isFinal(c.getModifiers()), "the class is public and final");
        Set<String> methods = new TreeSet<>();
        for (Method m : c.getDeclaredMethods()) {
            if (Modifier.isPublic(m.getModifiers()) && !Modifier.isStatic(m.getModifiers())) {
                String params = Arrays.toString(m.getParameterTypes()).replaceAll("[\\[\\] ]", "");
                methods.add(m.getReturnType() + " " + m.getName() + "(" + params + ")");
            } else {
                holds(Modifier.isPrivate(m.getModifiers()), m.getName() + " is private");
            }
        }
        holds(methods.equals(new TreeSet<>(Arrays.asList(FACE))), "the methods are those of the face: " + methods);
        Constructor<?>[] made = c.getDeclaredConstructors();
        holds(made.length == 1 && Modifier.isPublic(made[0].getModifiers()) && made[0].getParameterCount() == 0,
            "one public constructor");
        for (Field f : c.getDeclaredFields()) {
            boolean constant = CONSTANTS.contains(f.getName());
            holds(constant ? Modifier.isPublic(f.getModifiers()) : Modifier.isPrivate(f.getModifiers()),
                f.getName() + " is as visible as it should be");
            holds(!Modifier.isStatic(f.getModifiers()) || Modifier.isFinal(f.getModifiers()), f.getName() + " is final");
        }
        sizes(c);
    }

    private static void classInside(Class<?> inside) {
        holds(Modifier.isStatic(inside.getModifiers()), inside + " is static");
        holds(!Modifier.isPublic(inside.getModifiers()), inside + " is not public");
        for (Method m : inside.getDeclaredMethods()) {
            for (String of : FACE) {
                holds(!of.contains(" " + m.getName() + "("), m + " bears no name of the face");
            }
        }
        for (Field f : inside.getDeclaredFields()) {
            holds(!Modifier.isStatic(f.getModifiers()), f + " is no static state");
        }
        sizes(inside);
    }

    private static void sizes(Class<?> c) {
        long own = Arrays.stream(c.getDeclaredFields()).filter(f -> !Modifier.isStatic(f.getModifiers())).count();
        holds(own <= 20, c + " has some twenty fields at most");
        for (Method m : c.getDeclaredMethods()) {
            holds(m.getParameterCount() <= 7, m + " takes seven at most");
        }
    }

    private static void text(String source) {
        String code = source.replaceAll("(?s)/\\*.*?\\*/", "").replaceAll("//[^\n]*", "");
        for (String ruledOut : RULED_OUT) {
            Matcher m = Pattern.compile(ruledOut, Pattern.MULTILINE).matcher(code);
            holds(!m.find(), "the text has no " + ruledOut);
        }
        holds(source.chars().allMatch(ch -> ch == '\n' || ch >= 32 && ch < 127), "plain signs alone");
        // What a call makes stays for the whole run: all rows are made with the object.
        Matcher made = Pattern.compile("^(.*)\\bnew\\b.*$", Pattern.MULTILINE).matcher(code);
        while (made.find()) {
            String ahead = made.group(1).trim();
            holds(ahead.startsWith("private final") || ahead.matches("[a-z]+ ="), "made with the object: " + made.group());
        }
        methodLengths(code);
    }

    private static void methodLengths(String code) {
        int length = 0;
        for (String line : code.split("\n")) {
            boolean begins = line.matches(" {4}( {4})?\\S.*\\) \\{") && !line.matches(" *(if|for|while|switch|do|else)\\b.*");
            length = begins ? 1 : length + 1;
            if (line.matches(" {4}( {4})?\\}")) {
                holds(length <= 60, "a method of sixty lines at most, near: " + line);
                length = 0;
            }
        }
    }
}
