import java.io.IOException;
import java.lang.reflect.Constructor;
import java.lang.reflect.Field;
import java.lang.reflect.Method;
import java.lang.reflect.Modifier;
import java.nio.file.Files;
import java.nio.file.Path;
import java.util.Arrays;
import java.util.List;
import java.util.Set;
import java.util.TreeSet;
import java.util.regex.Matcher;
import java.util.regex.Pattern;

/** The face of the document, and those rules of LANGUAGE.md that can be looked up by a machine. */
final class LanguageTest {
    private static final String FACE = "int feed(int,int,int,int,int); int store(int); int fault(); int where(); int next();"
        + "int age(int); int older(int,int); int oldest(); int room(); int roomFrozen(); int horizon(); int writer(int,int);"
        + "int running(); int counts(int,int); int holdsBack(); int frees(int); int version(int,int); int chain(int);"
        + "int chainAt(int,int); int seenBy(int); int dead(); int freezes(); int sees(int,int); int read(int,int);"
        + "int sum(int); int differ(int,int); int fresh(int); int freshSum(); int asOf(int,int); int changed(int,int);"
        + "int may(int,int); int waitsFor(int,int); int open(int); int loses(int); int fits(); int fitAt(int); int could();"
        + "int surely(); int ask(); int askLeaves(); int judge(); int waits(int,boolean,boolean,boolean); int rests(int);"
        + "int rest(int); long odds(int,int,boolean); long mean(boolean); int drawn(int); int begin(); int put(int,int,int);"
        + "int drop(int,int); int done(int); int gone(int); int clear(); int freeze(); boolean undo(); int image();"
        + "boolean back(int); int led(int); int size(int); int trouble()";
    private static final List<String> FORBIDDEN = List.of("->", "::", "finally", "synchronized", "assert ", "catch", "Exact",
        "instanceof", "System.out", "Random", "@SuppressWarnings", "static {", "var ", "[][]", "ArrayList");

    private LanguageTest() {
    }

    public static void main(String[] args) throws IOException {
        String source = Files.readString(Path.of("src/main/java/StampedRows.java"));
        face();
        nested();
        words(source);
        lengths(source);
        Check.end();
    }

    private static void face() {
        Set<String> due = new TreeSet<>();
        for (String call : FACE.split(";")) {
            due.add(call.trim());
        }
        Set<String> names = new TreeSet<>();
        Set<String> got = new TreeSet<>();
        for (Method m : StampedRows.class.getDeclaredMethods()) {
            if (Modifier.isPublic(m.getModifiers())) {
                got.add(signature(m));
                names.add(m.getName());
            }
        }
        Check.isTrue("the face is " + due + ", not " + got, due.equals(got));
        Check.isTrue("61 promises, one of them the constructor", got.size() == 60);
        for (Method m : StampedRows.class.getDeclaredMethods()) {
            boolean hidden = Modifier.isPrivate(m.getModifiers()) && !names.contains(m.getName());
            Check.isTrue(m + " is private and bears no public name", hidden || got.contains(signature(m)));
        }
        for (Field f : StampedRows.class.getDeclaredFields()) {
            boolean isNone = f.getName().equals("NONE") && Modifier.isPublic(f.getModifiers());
            Check.isTrue(f + " is private", isNone || Modifier.isPrivate(f.getModifiers()));
        }
        for (Constructor<?> c : StampedRows.class.getDeclaredConstructors()) {
            Check.isTrue(c + " is public and takes nothing",
                Modifier.isPublic(c.getModifiers()) && c.getParameterCount() == 0);
        }
        Check.isTrue("the class is public and final", Modifier.isFinal(StampedRows.class.getModifiers())
            && Modifier.isPublic(StampedRows.class.getModifiers()));
        Check.same("NONE", StampedRows.NONE, -1);
    }

    private static String signature(Method m) {
        StringBuilder types = new StringBuilder();
        for (Class<?> type : m.getParameterTypes()) {
            types.append(types.length() == 0 ? "" : ",").append(type.getName());
        }
        return m.getReturnType().getName() + " " + m.getName() + "(" + types + ")";
    }

    private static void nested() {
        Class<?>[] classes = StampedRows.class.getDeclaredClasses();
        Check.isTrue("at most twelve classes", classes.length < 12);
        for (Class<?> c : classes) {
            Check.isTrue(c + " is static", Modifier.isStatic(c.getModifiers()));
            Check.isTrue(c + " isn't seen from outside", Modifier.isPrivate(c.getModifiers()));
            fewFields(c);
            for (Method m : c.getDeclaredMethods()) {
                Check.isTrue(m + " takes at most seven", m.getParameterCount() <= 7);
            }
        }
        fewFields(StampedRows.class);
    }

    private static void fewFields(Class<?> c) {
        int fields = 0;
        for (Field f : c.getDeclaredFields()) {
            fields += Modifier.isStatic(f.getModifiers()) ? 0 : 1;
            Check.isTrue(f + " is final if it is static",
                !Modifier.isStatic(f.getModifiers()) || Modifier.isFinal(f.getModifiers()));
        }
        Check.isTrue(c + " has at most twenty fields: " + fields, fields <= 20);
    }

    private static void words(String source) {
        String code = source.replaceAll("(?s)/\\*.*?\\*/", "").replaceAll("//[^\n]*", "");
        for (String word : FORBIDDEN) {
            Check.isTrue("no " + word, !code.contains(word));
        }
        Matcher imports = Pattern.compile("import ([^;]*);").matcher(code);
        while (imports.find()) {
            String name = imports.group(1);
            Check.isTrue("import " + name,
                name.equals("java.util.Arrays") || name.equals("java.util.NoSuchElementException"));
        }
        Check.isTrue("one throw, of the exception that the document names",
            code.split("throw new ", -1).length == 2 && code.contains("throw new NoSuchElementException()"));
        Check.isTrue("signs 1 to 127 alone", source.chars().allMatch(c -> c > 0 && c < 128));
        Check.isTrue("no package", !code.contains("package "));
        Check.isTrue("no line over 120 signs", Arrays.stream(source.split("\n")).allMatch(line -> line.length() <= 120));
    }

    /** A method begins with a line that ends in ") {" at a member's depth, and ends with "}" at that depth. */
    private static void lengths(String source) {
        String[] lines = source.split("\n");
        for (int i = 0; i < lines.length; i++) {
            Matcher m = Pattern.compile("^(    |        )[a-zA-Z].*\\) (throws \\w+ )?\\{$").matcher(lines[i]);
            if (!m.matches() || lines[i].trim().matches("(if|for|while|switch).*")) {
                continue;
            }
            int end = i;
            while (end < lines.length - 1 && !lines[end].equals(m.group(1) + "}")) {
                end++;
            }
            Check.isTrue("sixty lines at most: " + lines[i].trim(), end - i + 1 <= 60);
        }
    }
}
