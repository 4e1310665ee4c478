import java.io.IOException;
import java.lang.reflect.Constructor;
import java.lang.reflect.Field;
import java.lang.reflect.Method;
import java.lang.reflect.Modifier;
import java.nio.file.Files;
import java.nio.file.Path;
import java.util.ArrayList;
import java.util.List;
import java.util.Set;
import java.util.TreeSet;
import java.util.regex.Matcher;
import java.util.regex.Pattern;

/** The rules of ../shared/LANGUAGE.md that can be looked at, and the face that ../shared/DOC.md tells. */
public final class LanguageTest {
    private static final Set<String> THROWN = Set.of("IllegalStateException", "IllegalArgumentException",
        "IndexOutOfBoundsException", "ArithmeticException", "UnsupportedOperationException", "NoSuchElementException",
        "RuntimeException",
        // not in rule 6, but named by the document
        "NullPointerException", "ArrayStoreException");
    private static int wrong = 0;

    private static void fail(String what) {
        wrong++;
        System.out.println(what);
    }

    private static String signature(String type, String name, List<String> parameters, List<String> exceptions) {
        return type + " " + name + parameters + " throws " + exceptions;
    }

    /** The methods as the document's section "The public face" has them. */
    private static Set<String> toldFace(String document) {
        Set<String> face = new TreeSet<>();
        Matcher m = Pattern.compile("public (int|boolean) (\\w+)\\(([^)]*)\\)(?: throws ([^;]*))?;").matcher(document);
        while (m.find()) {
            List<String> parameters = new ArrayList<>();
            for (String p : m.group(3).isBlank() ? new String[0] : m.group(3).split(",")) {
                parameters.add(p.trim().split(" ")[0]);
            }
            List<String> exceptions = new ArrayList<>();
            for (String e : m.group(4) == null ? new String[0] : m.group(4).split(",")) {
                exceptions.add(e.trim());
            }
            face.add(signature(m.group(1), m.group(2), parameters, exceptions));
        }
        return face;
    }

    private static String signatureOf(Method method) {
        List<String> parameters = new ArrayList<>();
        for (Class<?> p : method.getParameterTypes()) {
            parameters.add(p.getSimpleName());
        }
        List<String> exceptions = new ArrayList<>();
        for (Class<?> e : method.getExceptionTypes()) {
            exceptions.add(e.getSimpleName());
        }
        return signature(method.getReturnType().getSimpleName(), method.getName(), parameters, exceptions);
    }

    private static void face(String document) {
        Class<?> c = SumDispersal.class;
        if (c.getModifiers() != (Modifier.PUBLIC | Modifier.FINAL)) {
            fail("rule 1: the class is not public final");
        }
        Set<String> told = toldFace(document);
        if (told.size() != 44) {
            fail("the document tells 44 methods, " + told.size() + " were read");
        }
        Set<String> here = new TreeSet<>();
        Set<String> names = new TreeSet<>();
        for (Method m : c.getDeclaredMethods()) {
            if (Modifier.isPublic(m.getModifiers())) {
                here.add(signatureOf(m));
                names.add(m.getName());
            } else if (!Modifier.isPrivate(m.getModifiers())) {
                fail("rule 1: " + m + " is neither public nor private");
            }
        }
        if (!told.equals(here)) {
            fail("rule 1: the face is " + here + ", the document tells " + told);
        }
        for (Field f : c.getDeclaredFields()) {
            if (!Modifier.isPrivate(f.getModifiers()) && !f.getName().equals("NONE")) {
                fail("rule 1: " + f + " can be seen");
            }
        }
        for (Constructor<?> k : c.getDeclaredConstructors()) {
            if (!Modifier.isPublic(k.getModifiers()) || k.getParameterCount() != 0) {
                fail("rule 1: " + k);
            }
        }
        inside(c, names);
    }

    private static void inside(Class<?> c, Set<String> names) {
        Class<?>[] classes = c.getDeclaredClasses();
        if (classes.length > 12) {
            fail("rule 11: " + classes.length + " classes");
        }
        List<Class<?>> all = new ArrayList<>(List.of(classes));
        all.add(c);
        for (Class<?> one : all) {
            if (one != c && (!Modifier.isStatic(one.getModifiers()) || Modifier.isPublic(one.getModifiers()))) {
                fail("rule 1: " + one);
            }
            int fields = 0;
            for (Field f : one.getDeclaredFields()) {
                boolean isStatic = Modifier.isStatic(f.getModifiers());
                fields += isStatic ? 0 : 1;
                if (isStatic && !Modifier.isFinal(f.getModifiers())) {
                    fail("rule 5: " + f);
                }
            }
            if (fields > 22) {
                fail("rule 11: " + one + " has " + fields + " fields");
            }
            for (Method m : one.getDeclaredMethods()) {
                if (m.getParameterCount() > 7) {
                    fail("rule 11: " + m);
                }
                if (names.contains(m.getName()) && !Modifier.isPublic(m.getModifiers())) {
                    fail("rule 1: " + m + " has a name of the face");
                }
            }
        }
    }

    private static void source(String code) {
        String bare = code.replaceAll("(?s)/\\*.*?\\*/", "").replaceAll("//[^\n]*", "").replaceAll("\"[^\"\n]*\"", "\"\"");
        String[] never = {"->", "::", "\\bfinally\\b", "\\btry\\b", "\\bcatch\\b", "\\bsynchronized\\b", "\\bassert\\b",
            "Exact\\b", "\\bpackage\\b", "\\bThread\\b", "\\bnanoTime\\b", "\\bcurrentTimeMillis\\b", "\\bRandom\\b",
            "\\bMath\\.random\\b", "\\bhashCode\\b", "\\btoString\\b", "\"\"\\s*\\+", "\\+\\s*\"\"", "static\\s*\\{",
            "\\bprotected\\b", "\\bdouble\\b", "\\bfloat\\b", "\\bObject\\b", "\\bvar\\b", "\\[\\]\\[\\]\\[\\]"};
        for (String pattern : never) {
            if (Pattern.compile(pattern).matcher(bare).find()) {
                fail("the source has " + pattern);
            }
        }
        Matcher thrown = Pattern.compile("throw\\s+new\\s+(\\w+)").matcher(bare);
        while (thrown.find()) {
            if (!THROWN.contains(thrown.group(1))) {
                fail("rule 6: throws " + thrown.group(1));
            }
        }
        Matcher imported = Pattern.compile("import ([\\w.*]+);").matcher(bare);
        while (imported.find()) {
            if (!Set.of("java.util.NoSuchElementException", "java.util.Arrays").contains(imported.group(1))) {
                fail("rule 4: imports " + imported.group(1));
            }
        }
        if (!code.chars().allMatch(sign -> sign == '\n' || sign >= 32 && sign < 127)) {
            fail("rule 4: a sign beyond 127");
        }
        lengths(code);
    }

    /** A method is what stands between a line that opens one and the line that ends it, as indented. */
    private static void lengths(String code) {
        String[] lines = code.split("\n");
        for (int from = 0; from < lines.length; from++) {
            Matcher m = Pattern.compile("^( {4}| {8})\\S.*\\).*\\{$").matcher(lines[from]);
            if (!m.find()) {
                continue;
            }
            int to = from;
            while (to < lines.length && !lines[to].equals(m.group(1) + "}")) {
                to++;
            }
            if (to - from > 60) {
                fail("rule 11: " + (to - from) + " lines from " + (from + 1) + ": " + lines[from].trim());
            }
        }
    }

    public static void main(String[] args) throws IOException {
        face(Files.readString(Path.of("../shared/DOC.md")));
        source(Files.readString(Path.of("src/main/java/SumDispersal.java")));
        System.out.println("the face and the rules: " + wrong + " wrong");
        if (wrong != 0) {
            System.exit(1);
        }
    }
}
