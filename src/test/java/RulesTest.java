import java.io.IOException;
import java.lang.reflect.Constructor;
import java.lang.reflect.Field;
import java.lang.reflect.Method;
import java.lang.reflect.Modifier;
import java.nio.file.Files;
import java.nio.file.Path;
import java.util.ArrayList;
import java.util.Arrays;
import java.util.List;
import java.util.TreeSet;
import java.util.regex.Matcher;
import java.util.regex.Pattern;

/** The rules of ../shared/LANGUAGE.md that can be seen from the source's words and the compiled members. */
public final class RulesTest {
    private static final Path SOURCE = Path.of("src/main/java/ClothSchool.java");
    private static final int MOST_LINES = 60;
    private static final int MOST_PARAMETERS = 7;
    private static final int MOST_CLASSES = 12;
    private static final int MOST_FIELDS = 20;

    private static final String[] FACE = {
        "int after(int,int)", "int body(int,int,int,int,int,int,int,int)", "int breaths()", "int cloth(int,int)",
        "boolean colour(int,int,int)", "int count(int)", "int drape(int,int,int,int)", "boolean end(int,int)",
        "int feed(int,int,int,int,int)", "int fix()", "int layer(int,int)", "int layers(int,int)", "int look(int)",
        "int moves(int)", "int pull(int,int)", "int read(int,int)", "int shortest(int,int,int,int)",
        "int shows(int,int)", "int slipped(int)", "int solve(int,int,int,int,int)", "int strength(int)",
        "boolean stretch(int,int,int)", "int style(int)", "int wrote(int)"};

    private static final String[] FORBIDDEN = {
        "\\bthrows?\\b", "\\btry\\b", "\\bcatch\\b", "\\bfinally\\b", "\\bsynchronized\\b", "\\bassert\\b", "->", "::",
        "Exact\\b", "\\bpackage\\b", "\\bprotected\\b", "\\bObject\\b", "\\bhashCode\\b", "\\bRandom\\b", "\\bThread\\b",
        "\\bnanoTime\\b", "\\bcurrentTimeMillis\\b", "\\bout\\.", "while \\(true\\)", "for \\(;;\\)", "\\bvolatile\\b", "\\btransient\\b",
        "\\bjava\\.(?!util\\.(Arrays|ArrayList|List|Iterator);)", "Arrays\\.(?!copyOf|copyOfRange|fill)",
        "System\\.(?!arraycopy)", "\\bstatic (?!final|class|int|boolean|long|void)"};

    public static void main(String[] args) throws IOException {
        String text = Files.readString(SOURCE);
        words(text);
        methods(text);
        face();
        for (Class<?> c : classes()) {
            members(c);
        }
        Due.is("11: at most twelve classes", true, classes().size() <= MOST_CLASSES);
        Due.close();
    }

    private static List<Class<?>> classes() {
        List<Class<?>> all = new ArrayList<>(Arrays.asList(ClothSchool.class.getDeclaredClasses()));
        all.add(ClothSchool.class);
        return all;
    }

    private static void words(String text) {
        for (int i = 0; i < text.length(); i++) {
            if (text.charAt(i) > 126) {
                Due.is("4: sign at " + i, 0, text.charAt(i));
            }
        }
        String bare = text.replaceAll("(?s)/\\*.*?\\*/", "").replaceAll("//[^\n]*", "");
        for (String words : FORBIDDEN) {
            Matcher m = Pattern.compile(words).matcher(bare);
            Due.is("not in the language: " + words, false, m.find());
        }
    }

    /** Takes a method for what stands from a line that ends with ") {" to the brace under its beginning. */
    private static void methods(String text) {
        String[] lines = text.split("\n");
        Pattern head = Pattern.compile("^( {4}| {8})(?!for|if|while|switch|else)[a-zA-Z].*\\((.*)\\) \\{$");
        for (int i = 0; i < lines.length; i++) {
            Matcher m = head.matcher(lines[i]);
            if (m.find()) {
                int end = i;
                while (end < lines.length && !lines[end].equals(m.group(1) + "}")) {
                    end++;
                }
                Due.is("11: short: " + lines[i].trim(), true, end - i < MOST_LINES);
                boolean isBody = lines[i].startsWith("    public int body(");
                Due.is("11: parameters: " + lines[i].trim(), true, isBody || m.group(2).split(",").length <= MOST_PARAMETERS);
            }
        }
    }

    private static void face() {
        Due.is("1: public and final", true, Modifier.isPublic(ClothSchool.class.getModifiers()) && Modifier.isFinal(ClothSchool.class.getModifiers()));
        TreeSet<String> seen = new TreeSet<>();
        TreeSet<String> names = new TreeSet<>();
        for (Method m : ClothSchool.class.getDeclaredMethods()) {
            if (Modifier.isPublic(m.getModifiers())) {
                String types = Arrays.toString(m.getParameterTypes()).replace("[", "(").replace("]", ")").replace(" ", "");
                seen.add(m.getReturnType() + " " + m.getName() + types);
                names.add(m.getName());
            }
        }
        Due.is("1: the face " + seen, true, seen.equals(new TreeSet<>(Arrays.asList(FACE))));
        for (Class<?> c : classes()) {
            for (Method m : c.getDeclaredMethods()) {
                boolean ofFace = Modifier.isPublic(m.getModifiers()) && c == ClothSchool.class;
                Due.is("1: the name of " + m, true, ofFace || !names.contains(m.getName()));
            }
        }
    }

    private static void members(Class<?> c) {
        boolean outer = c == ClothSchool.class;
        Due.is("2: " + c + " is static", true, outer || Modifier.isStatic(c.getModifiers()));
        int fields = 0;
        for (Field f : c.getDeclaredFields()) {
            int m = f.getModifiers();
            Due.is("5: " + f + " is final", true, !Modifier.isStatic(m) || Modifier.isFinal(m));
            Due.is("1: " + f + " is private or of the face", true, !outer || Modifier.isPrivate(m) || f.getName().equals("NONE"));
            fields += Modifier.isStatic(m) ? 0 : 1;
        }
        Due.is("11: fields of " + c, true, fields <= MOST_FIELDS);
        for (Method m : c.getDeclaredMethods()) {
            Due.is("1: " + m + " is public or private", true, !outer || Modifier.isPublic(m.getModifiers()) || Modifier.isPrivate(m.getModifiers()));
        }
        for (Constructor<?> k : c.getDeclaredConstructors()) {
            Due.is("1: " + k + " is public", true, !outer || Modifier.isPublic(k.getModifiers()));
        }
    }
}
