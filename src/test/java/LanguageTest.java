import java.io.IOException;
import java.lang.reflect.Constructor;
import java.lang.reflect.Field;
import java.lang.reflect.Method;
import java.lang.reflect.Modifier;
import java.nio.file.Files;
import java.nio.file.Path;
import java.util.ArrayList;
import java.util.Arrays;
import java.util.List;
import java.util.TreeSet;
import java.util.regex.Matcher;
import java.util.regex.Pattern;

/** The face is the document's and no more, and the source keeps to what LANGUAGE.md leaves. */
public final class LanguageTest {
    private static final Path SOURCE = Path.of("src/main/java/ThirteenthLoaf.java");
    private static final String[] FACE = {
        "int customer(int,int,int)", "int put(int,int,int)", "int of(int,int)", "int owed(int)",
        "int terms(int,int)", "int feed(int,int,int,int,int)", "int end(int)", "int row()",
        "int crumbs()", "int law()", "int fault()", "int force(int)", "int waits(int,int)",
        "int blessed(int,int)", "int served(int,int)", "int orders()", "int best(int)",
        "int fairest(int)", "int year(int)", "int chances(int,int)", "long never(int,int)",
        "int sight(int,int)", "int counts(int,int)", "int claim(int,int)", "int wrong(int)",
        "int forget()", "int bake(int)", "int queues(int,int)", "int drawn(int,int)", "int image(int)",
        "int back(int)", "int count(int)", "int status()"};
    /** What rules 2, 4, 6, 12 and 13 rule out, as it would stand in the source. */
    private static final String[] RULED_OUT = {"\\bthrow\\b", "\\bthrows\\b", "\\btry\\b", "\\bcatch\\b",
        "\\bsynchronized\\b", "\\bassert\\b", "->", "::", "\\w+Exact\\b", "\\bObject\\b", "\\bvar\\b",
        "\\bSystem\\.(?!arraycopy\\b)", "\\bThread\\b", "\\bRandom\\b", "\\.values\\(", "\\bpackage\\b",
        "\\bhashCode\\b", "\\btoString\\b", "\\bwhile \\(true\\)", "for \\(;;", "\\bnumberOf\\w+",
        "\\bimport (?!java\\.util\\.Arrays;)", "\\bMath\\.(?!max|min|abs)",
        "\\bArrays\\.(?!fill|copyOf|copyOfRange)"};
    private static int wrong;

    private static void expect(boolean so, String what) {
        if (!so) {
            wrong++;
            System.out.println("not so: " + what);
        }
    }

    public static void main(String[] args) throws IOException {
        face();
        String source = Files.readString(SOURCE);
        String code = bare(source);
        for (String pattern : RULED_OUT) {
            Matcher m = Pattern.compile(pattern).matcher(code);
            expect(!m.find(), "the source is without " + pattern);
        }
        methods(code);
        classes();
        System.out.println(wrong == 0 ? "the face and the language are kept" : wrong + " not kept");
        System.exit(wrong == 0 ? 0 : 1);
    }

    private static void face() {
        Class<?> face = ThirteenthLoaf.class;
        expect(Modifier.isPublic(face.getModifiers()) && Modifier.isFinal(face.getModifiers()),
                "the class is public and final");
        List<String> open = new ArrayList<>();
        TreeSet<String> closed = new TreeSet<>();
        for (Method m : face.getDeclaredMethods()) {
            if (Modifier.isPrivate(m.getModifiers())) {
                closed.add(m.getName());
                continue;
            }
            expect(Modifier.isPublic(m.getModifiers()) && !Modifier.isStatic(m.getModifiers()),
                    m + " is of the face");
            open.add(m.toString().replace("public ", "").replace("ThirteenthLoaf.", ""));
        }
        expect(new TreeSet<>(open).equals(new TreeSet<>(Arrays.asList(FACE))), "the face is " + open);
        for (String text : FACE) {
            String name = text.substring(text.indexOf(' ') + 1, text.indexOf('('));
            expect(!closed.contains(name), "no private method is named " + name);
        }
        for (Field f : face.getDeclaredFields()) {
            boolean constant = f.getName().equals("NONE") || f.getName().equals("NOTHING");
            int m = f.getModifiers();
            expect(constant ? Modifier.isPublic(m) && Modifier.isStatic(m) : Modifier.isPrivate(m),
                    "only the constants can be seen: " + f);
        }
        Constructor<?>[] made = face.getDeclaredConstructors();
        expect(made.length == 1 && Modifier.isPublic(made[0].getModifiers())
                && made[0].getParameterCount() == 0, "one constructor");
    }

    /** The source without comments, texts and signs. */
    private static String bare(String source) {
        return source.replaceAll("(?s)/\\*.*?\\*/", " ").replaceAll("//[^\n]*", " ")
                .replaceAll("\"[^\"\n]*\"", "\"\"").replaceAll("'[^'\n]+'", "' '");
    }

    /** Rule 11: at most seven parameters, some sixty lines. */
    private static void methods(String code) {
        String[] lines = code.split("\n");
        Pattern head = Pattern.compile("^( {4}| {8})(?! )(?!.*\\b(class|new|return)\\b)[^=;]*\\w\\((.*)\\) \\{$");
        int found = 0;
        for (int i = 0; i < lines.length; i++) {
            Matcher m = head.matcher(lines[i]);
            if (m.find() && !lines[i].trim().matches("(if|for|while|switch|\\}).*")) {
                found++;
                int end = i;
                while (end < lines.length && !lines[end].equals(m.group(1) + "}")) {
                    end++;
                }
                expect(end - i < 60, "short enough: " + lines[i].trim());
                expect(m.group(3).isEmpty() || m.group(3).split(",").length <= 7,
                        "few enough parameters: " + lines[i].trim());
            }
        }
        expect(found > 80, "the methods were found: " + found);
    }

    private static void classes() {
        Class<?>[] inside = ThirteenthLoaf.class.getDeclaredClasses();
        expect(inside.length + 1 <= 12, "twelve classes at most");
        List<Class<?>> all = new ArrayList<>(Arrays.asList(inside));
        all.add(ThirteenthLoaf.class);
        for (Class<?> c : all) {
            int own = 0;
            for (Field f : c.getDeclaredFields()) {
                if (Modifier.isStatic(f.getModifiers())) {
                    expect(Modifier.isFinal(f.getModifiers()), f + " is final");
                } else {
                    own++;
                }
            }
            expect(own <= 20, c + " has twenty fields at most: " + own);
        }
        for (Class<?> c : inside) {
            expect(Modifier.isStatic(c.getModifiers()), c + " is static");
        }
    }
}
