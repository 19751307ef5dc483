import java.io.IOException;
import java.lang.reflect.Constructor;
import java.lang.reflect.Field;
import java.lang.reflect.Method;
import java.lang.reflect.Modifier;
import java.nio.file.Files;
import java.nio.file.Path;
import java.util.Arrays;
import java.util.HashSet;
import java.util.List;
import java.util.Set;
import java.util.TreeSet;
import java.util.regex.Matcher;
import java.util.regex.Pattern;

/** The face is the document's and no more; the source keeps to those rules of LANGUAGE.md that a look can tell. */
public final class FaceTest {
    private static final String[] FACE = {
        "int wheels(int,int,int,int)", "int order(int)", "int ticks(int)", "int leaps(int)",
        "int sets(int,int,int,int,int)", "int cancels(int)", "int cancelsAll(int)", "int steady(int,boolean)",
        "int pauses(int)", "int resumes(int)", "int holds(int)", "int goesOn(int)", "int spreads(int,int)",
        "int delays(int,int)", "int run()", "int sign(int)", "boolean end(int)", "int timer(int,int)",
        "int slot(int,int)", "int far()", "int group(int)", "int full(int)", "int next()", "int rings(int)",
        "int quiet(int)", "int moves(int)", "int cost(int,int,int,int)", "int best(int)", "int ahead(int,int)",
        "int way(int)", "int would(int)", "int busiest(int)", "int till(int)", "int loudest(int)",
        "int clashes(int)", "int rung(int)", "int told(int)", "int count(int)", "long row(int)"};

    public static void main(String[] args) throws IOException {
        looksAtMembers();
        looksAtClassesInside();
        looksAtSource(Files.readString(Path.of("src/main/java/DueWheels.java")));
        Check.close("FaceTest");
    }

    private static void holds(String what, boolean is) {
        Check.is(what, is, true);
    }

    private static void looksAtMembers() {
        Class<?> face = DueWheels.class;
        holds("public and final", Modifier.isPublic(face.getModifiers()) && Modifier.isFinal(face.getModifiers()));
        Set<String> got = new TreeSet<>();
        Set<String> names = new HashSet<>();
        for (Method m : face.getDeclaredMethods()) {
            if (Modifier.isPublic(m.getModifiers())) {
                got.add(told(m));
                names.add(m.getName());
                holds(m.getName() + " is of the object", !Modifier.isStatic(m.getModifiers()));
            }
        }
        Set<String> want = new TreeSet<>(Arrays.asList(FACE));
        holds("the methods are " + got + ", due are " + want, got.equals(want));
        for (Method m : face.getDeclaredMethods()) {
            if (!Modifier.isPublic(m.getModifiers()) && !m.isSynthetic()) {
                holds(m + " is private", Modifier.isPrivate(m.getModifiers()));
                holds(m + " bears a name of its own", !names.contains(m.getName()));
            }
        }
        for (Field f : face.getDeclaredFields()) {
            holds(f + " is private, or NONE", Modifier.isPrivate(f.getModifiers()) || f.getName().equals("NONE"));
        }
        Constructor<?>[] all = face.getDeclaredConstructors();
        holds("one constructor, without arguments", all.length == 1 && all[0].getParameterCount() == 0
            && Modifier.isPublic(all[0].getModifiers()));
    }

    private static String told(Method m) {
        StringBuilder b = new StringBuilder(m.getReturnType().getName() + " " + m.getName() + "(");
        String between = "";
        for (Class<?> c : m.getParameterTypes()) {
            b.append(between).append(c.getName());
            between = ",";
        }
        return b.append(")").toString();
    }

    private static void looksAtClassesInside() {
        Class<?>[] inside = DueWheels.class.getDeclaredClasses();
        holds("at most twelve classes", inside.length <= 12);
        for (Class<?> c : inside) {
            holds(c + " is static", Modifier.isStatic(c.getModifiers()));
            holds(c + " is private", Modifier.isPrivate(c.getModifiers()));
            int fields = 0;
            for (Field f : c.getDeclaredFields()) {
                fields += Modifier.isStatic(f.getModifiers()) ? 0 : 1;
            }
            holds(c + " has at most twenty fields", fields <= 20);
            for (Method m : c.getDeclaredMethods()) {
                holds(m + " has at most seven parameters", m.getParameterCount() <= 7);
            }
        }
    }

    private static void looksAtSource(String source) {
        String bare = source.replaceAll("(?s)/\\*.*?\\*/", " ").replaceAll("//[^\n]*", " ");
        Matcher imports = Pattern.compile("import ([\\w.*]+);").matcher(bare);
        while (imports.find()) {
            holds("import of " + imports.group(1),
                List.of("java.util.Arrays", "java.util.NoSuchElementException").contains(imports.group(1)));
        }
        for (String word : List.of("try", "catch", "finally", "synchronized", "assert", "package", "instanceof",
            "lambda", "System", "Thread", "Random", "getMessage", "toString", "hashCode", "addExact", "import java.io")) {
            holds("no " + word, !Pattern.compile("\\b" + word + "\\b").matcher(bare).find());
        }
        holds("no arrow, no method reference", !bare.contains("->") && !bare.contains("::"));
        holds("signs of 7 bits", source.chars().allMatch(c -> c < 128));
        Matcher thrown = Pattern.compile("throw ([^;]*);").matcher(bare);
        int throwing = 0;
        while (thrown.find()) {
            throwing++;
            holds("throw " + thrown.group(1), thrown.group(1).equals("new NoSuchElementException()"));
        }
        holds("thrown in timer() and row() alone", throwing == 2);
        looksAtLengths(source);
    }

    private static void looksAtLengths(String source) {
        Pattern head = Pattern.compile("^(    |        )(?:\\w+ )+\\w+\\([^;]*\\)(?: throws \\w+)? \\{$");
        String[] lines = source.split("\n");
        for (int i = 0; i < lines.length; i++) {
            holds("line " + (i + 1) + " is at most 120 long", lines[i].length() <= 120);
            Matcher m = head.matcher(lines[i]);
            if (m.matches()) {
                int end = i;
                while (!lines[end].equals(m.group(1) + "}")) {
                    end++;
                }
                holds("at most sixty lines: " + lines[i], end - i <= 60);
            }
        }
    }
}
