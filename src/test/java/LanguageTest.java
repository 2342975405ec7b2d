import java.io.IOException;
import java.lang.reflect.Constructor;
import java.lang.reflect.Field;
import java.lang.reflect.Method;
import java.lang.reflect.Modifier;
import java.nio.file.Files;
import java.nio.file.Path;
import java.util.ArrayList;
import java.util.Arrays;
import java.util.List;
import java.util.Set;
import java.util.TreeSet;
import java.util.regex.Matcher;
import java.util.regex.Pattern;

/** The rules of LANGUAGE.md, as far as the source's words and the class's members show them. */
public final class LanguageTest {
    private static final Check CHECK = new Check();
    private static final String FACE = "feed(int,int)int stone()int of(int,int)int lump(int,int,int)int"
        + " set(int,int,int)int floor()int grows(int,int)int roll(int,int,int,int)int going(int,int)int back(int)int"
        + " told(int)int even(int,int,int,int)int soonest(int,int,int,int)int screws(int,int,int)int"
        + " lightest(int,int)int seen(int,int,int)int pressed(int,int)int hands(int,int,int)int frame(int,int)int"
        + " frames(int,int,int)int cut()int off(int,int,int)int shape(int,int,int)int span(int,int,int)int"
        + " which(int,int)int chance(int,int)int undo()int redo()int body(int)int act(int,int,int)int trace(int)int"
        + " keep(int,int)int row(int,int,int)int put(int,int,long)int element(int,int)long"
        + " shift(int,int,int,int,int)int taken(int,int)int count(int)int";

    public static void main(String[] args) throws IOException {
        Path source = Path.of(args.length > 0 ? args[0] : "src/main/java/TurnsOneWay.java");
        String text = Files.readString(source);
        words(text);
        methodLengths(text);
        face();
        for (Class<?> c : classes()) members(c);
        CHECK.close();
    }

    private static List<Class<?>> classes() {
        List<Class<?>> all = new ArrayList<>(List.of(TurnsOneWay.class));
        all.addAll(Arrays.asList(TurnsOneWay.class.getDeclaredClasses()));
        return all;
    }

    private static void words(String text) {
        String code = text.replaceAll("(?s)/\\*.*?\\*/", "").replaceAll("//[^\n]*", "").replaceAll("'[^']'", "0");
        for (char c : text.toCharArray()) CHECK.due("sign " + (int) c, c == '\n' || c >= 32 && c < 127 ? 1 : 0, 1);
        String[] never = {"\\bthrow\\b", "\\btry\\b", "\\bcatch\\b", "\\bthrows\\b", "\\bsynchronized\\b", "\\bassert\\b",
            "->", "::", "\\bimport\\b", "\\bpackage\\b", "\\bObject\\b", "\"", "\\bdouble\\b", "\\bfloat\\b",
            "Exact\\b", "\\bvar\\b", "\\bwhile\\b", "\\btransient\\b", "\\bvolatile\\b", "\\bnative\\b"};
        for (String word : never) CHECK.due(word, Pattern.compile(word).matcher(code).results().count(), 0);
        // no call makes an object: all that is made is made by fields and the constructor
        Matcher made = Pattern.compile("(?m)^.*\\bnew\\b.*$").matcher(code);
        while (made.find()) {
            String line = made.group().trim();
            boolean known = line.matches("private final .* = new .*;") || line.matches("(stones|floors|shelves)\\[i\\] = new .*;");
            CHECK.due("made: " + line, known ? 1 : 0, 1);
        }
        Matcher library = Pattern.compile("\\b(?:Math|Integer|Long|System)\\.(\\w+)").matcher(code);
        Set<String> known = Set.of("abs", "min", "max", "signum", "arraycopy", "MIN_VALUE");
        while (library.find()) CHECK.due("library: " + library.group(), known.contains(library.group(1)) ? 1 : 0, 1);
    }

    private static void methodLengths(String text) {
        String[] lines = text.split("\n");
        int start = -1;
        for (int i = 0; i < lines.length; i++) {
            String line = lines[i];
            if (line.matches(" {4}( {4})?[A-Za-z].*\\) \\{")) start = i;
            if (start >= 0 && line.matches(" {4}( {4})?\\}")) {
                CHECK.due("lines from " + (start + 1), i - start < 60 ? 1 : 0, 1);
                start = -1;
            }
        }
    }

    private static void face() {
        Set<String> found = new TreeSet<>();
        Set<String> names = new TreeSet<>();
        for (Method m : TurnsOneWay.class.getDeclaredMethods()) {
            if (Modifier.isPrivate(m.getModifiers())) continue;
            CHECK.due(m.getName() + " is public alone", m.getModifiers(), Modifier.PUBLIC);
            String[] types = Arrays.stream(m.getParameterTypes()).map(Class::getName).toArray(String[]::new);
            found.add(m.getName() + "(" + String.join(",", types) + ")" + m.getReturnType().getName());
            names.add(m.getName());
        }
        Set<String> due = new TreeSet<>(Arrays.asList(FACE.split(" ")));
        CHECK.due("the face " + found, found.equals(due) ? 1 : 0, 1);
        CHECK.due("the class", TurnsOneWay.class.getModifiers(), Modifier.PUBLIC | Modifier.FINAL);
        Constructor<?>[] made = TurnsOneWay.class.getDeclaredConstructors();
        CHECK.due("one constructor", made.length, 1);
        CHECK.due("it is public", made[0].getModifiers(), Modifier.PUBLIC);
        CHECK.due("of nothing", made[0].getParameterCount(), 0);
        Set<String> constants = new TreeSet<>();
        for (Field f : TurnsOneWay.class.getDeclaredFields()) {
            if (!Modifier.isPrivate(f.getModifiers())) constants.add(f.getName() + f.getModifiers());
        }
        int open = Modifier.PUBLIC | Modifier.STATIC | Modifier.FINAL;
        Set<String> dueConstants = new TreeSet<>();
        for (String name : List.of("BAD", "NOT", "FULL", "STATE", "VOID")) dueConstants.add(name + open);
        CHECK.due("constants " + constants, constants.equals(dueConstants) ? 1 : 0, 1);
        for (Class<?> c : classes()) {
            for (Method m : c.getDeclaredMethods()) {
                boolean twice = names.contains(m.getName()) && !Modifier.isPublic(m.getModifiers());
                CHECK.due("named as the face: " + m, twice ? 1 : 0, 0);
            }
        }
        CHECK.due("some twelve classes", classes().size() <= 12 ? 1 : 0, 1);
    }

    private static void members(Class<?> c) {
        int own = 0;
        for (Field f : c.getDeclaredFields()) {
            boolean isStatic = Modifier.isStatic(f.getModifiers());
            own += isStatic ? 0 : 1;
            boolean fixed = !isStatic || Modifier.isFinal(f.getModifiers());
            CHECK.due("static and final: " + f, fixed ? 1 : 0, 1);
        }
        CHECK.due("some twenty fields: " + c + " has " + own, own <= 20 ? 1 : 0, 1);
        for (Method m : c.getDeclaredMethods()) {
            CHECK.due("seven parameters: " + m, m.getParameterCount() <= 7 ? 1 : 0, 1);
            CHECK.due("none made by the compiler: " + m, m.isSynthetic() ? 1 : 0, 0);
        }
        if (c != TurnsOneWay.class) {
            int must = Modifier.PRIVATE | Modifier.STATIC;
            CHECK.due("private and static: " + c, c.getModifiers() & must, must);
            CHECK.due("depth: " + c, c.getDeclaredClasses().length, 0);
        }
    }
}
