import java.lang.reflect.Constructor;
import java.lang.reflect.Field;
import java.lang.reflect.Method;
import java.lang.reflect.Modifier;
import java.nio.file.Files;
import java.nio.file.Path;
import java.util.Arrays;
import java.util.TreeSet;
import java.util.regex.Matcher;
import java.util.regex.Pattern;

/** The face as the document tells it, and those rules of LANGUAGE.md that a text search can look at. */
public final class LanguageTest {
    private static final Check CHECK = new Check("LanguageTest");
    private static final String FACE = "int feed(long);int end(int);int text();int fault();int rule(int);"
        + "int well(int,int);int light(int,int);int expose(int);int down();int read();int line(int);long now(int);"
        + "int clear();int picture(int,int,int,int);int shades(int,int,int);int late(int);int smear(int);"
        + "int spoiled(int);int full(int);int longest();int enough(int);long hots(int,int);int mended(int);"
        + "int word(int);int still();int words(int);int clock(int);int goes(int,int);int fewest(int);"
        + "long rounds(int,int,int);int keep(int);int back(int);int sheet(int,int,int);int lay(int,int,int);"
        + "int reads(int,int,int,int);int torn();int count(int)";

    public static void main(String[] args) throws Exception {
        face();
        insideClasses();
        source(Files.readString(Path.of("src/main/java/BucketSheet.java")));
        CHECK.end();
    }

    private static void wrong(String what) {
        CHECK.due(what, 1, 0);
    }

    private static void face() {
        Class<?> c = BucketSheet.class;
        if (!Modifier.isPublic(c.getModifiers()) || !Modifier.isFinal(c.getModifiers())) {
            wrong("the class is not public and final");
        }
        TreeSet<String> due = new TreeSet<>(Arrays.asList(FACE.split(";")));
        TreeSet<String> names = new TreeSet<>();
        TreeSet<String> hidden = new TreeSet<>();
        TreeSet<String> got = new TreeSet<>();
        for (Method m : c.getDeclaredMethods()) {
            if (Modifier.isPublic(m.getModifiers())) {
                String types = Arrays.toString(m.getParameterTypes()).replaceAll("[\\[\\] ]", "");
                got.add(m.getReturnType() + " " + m.getName() + "(" + types + ")");
                names.add(m.getName());
            } else if (!Modifier.isPrivate(m.getModifiers())) {
                wrong(m + " is neither public nor private");
            } else {
                hidden.add(m.getName());
            }
        }
        if (!got.equals(due)) {
            wrong("the face is " + got);
        }
        for (Class<?> inside : c.getDeclaredClasses()) {
            for (Method m : inside.getDeclaredMethods()) {
                hidden.add(m.getName());
            }
        }
        hidden.retainAll(names);
        if (!hidden.isEmpty()) {
            wrong("hidden methods bear public names: " + hidden);
        }
        for (Field f : c.getDeclaredFields()) {
            boolean constant = f.getName().matches("BAD|STATE|FULL|NONE");
            if (constant != Modifier.isPublic(f.getModifiers()) || !constant && !Modifier.isPrivate(f.getModifiers())) {
                wrong(f + " is seen otherwise than told");
            }
        }
        Constructor<?>[] made = c.getDeclaredConstructors();
        if (made.length != 1 || made[0].getParameterCount() != 0 || !Modifier.isPublic(made[0].getModifiers())) {
            wrong("the constructor is not as told");
        }
    }

    private static void insideClasses() {
        Class<?>[] inside = BucketSheet.class.getDeclaredClasses();
        if (inside.length > 11) {
            wrong("more than twelve classes");
        }
        for (Class<?> c : inside) {
            if (!Modifier.isStatic(c.getModifiers()) || Modifier.isPublic(c.getModifiers())) {
                wrong(c + " is not static, or public");
            }
            fields(c);
        }
        fields(BucketSheet.class);
    }

    private static void fields(Class<?> c) {
        int many = 0;
        for (Field f : c.getDeclaredFields()) {
            if (!Modifier.isStatic(f.getModifiers())) {
                many++;
            } else if (!Modifier.isFinal(f.getModifiers())) {
                wrong(f + " is static and not final");
            }
        }
        if (many > 20) {
            wrong(c + " has " + many + " fields");
        }
    }

    private static void source(String whole) {
        String code = whole.replaceAll("(?s)/\\*.*?\\*/", "").replaceAll("//[^\n]*", "");
        String[] ruledOut = {"\\b(throw|try|catch|synchronized|assert|package)\\b", "\\bstatic\\s*\\{", "->", "::",
            "\\bnew\\s+\\w+\\s*\\([^)]*\\)\\s*\\{", "\\b(hashCode|toString)\\b", "Exact\\s*\\(",
            "\\b(Random|random|currentTimeMillis|nanoTime|Thread|File|getenv)\\b"};
        for (String p : ruledOut) {
            Matcher m = Pattern.compile(p).matcher(code);
            if (m.find()) {
                wrong("the source has " + m.group());
            }
        }
        Matcher imports = Pattern.compile("import\\s+([\\w.]+)").matcher(code);
        while (imports.find()) {
            if (!imports.group(1).matches("java\\.util\\.(Arrays|ArrayList|List)")) {
                wrong("the source imports " + imports.group(1));
            }
        }
        methodLengths(code);
    }

    /** From a line that opens a method to the line that closes it, which has the same margin. */
    private static void methodLengths(String code) {
        String[] lines = code.split("\n");
        for (int i = 0; i < lines.length; i++) {
            if (!lines[i].matches("( {4}| {8})(public |private |static |final )*[\\w\\[\\]]+ ?\\w*\\([^;]*\\) \\{")
                || lines[i].matches("\\s*(if|for|while|switch|else).*")) {
                continue;
            }
            String margin = lines[i].replaceAll("\\S.*", "");
            int end = i;
            while (end < lines.length && !lines[end].equals(margin + "}")) {
                end++;
            }
            if (end - i > 60) {
                wrong("a method of " + (end - i) + " lines: " + lines[i]);
            }
        }
    }
}
