import java.io.IOException;
import java.lang.reflect.Constructor;
import java.lang.reflect.Field;
import java.lang.reflect.Method;
import java.lang.reflect.Modifier;
import java.nio.file.Files;
import java.nio.file.Path;
import java.util.HashSet;
import java.util.Map;
import java.util.Set;
import java.util.TreeMap;
import java.util.TreeSet;
import java.util.regex.Matcher;
import java.util.regex.Pattern;

/** The face of the document and nothing else, and the rules of LANGUAGE.md that reflection or the source's words show. */
public final class FaceTest {
    private static final String FACE = "int feed 5,int drawer 1,int law 1,int work 1,int page 1,int fault 0,int undo 0,int told 1,"
        + "int life 2,int facts 1,int wrong 1,int would 5,long loss 1,long cost 2,long risk 1,long saves 2,int first 0,int lacking 0,"
        + "int signed 0,int stale 1,long best 2,int bestIn 2,int often 2,long yearly 4,int brings 6,int says 5,int line 4,int room 2,"
        + "int lines 3,int apart 2,int twins 0,long written 1,int whose 0,long ahead 2,long lives 3,int oldest 0,int chain 2,int due 2,"
        + "int news 1,long expects 3,int worst 0,int years 3,int span 5,int image 0,int restore 0,int status 1,int count 1";
    private static final Set<String> BAD = Set.of("drawer", "law", "work", "page", "told", "would", "loss", "risk", "stale", "best", "bestIn",
        "brings", "says", "line", "room", "apart", "ahead", "years", "span");
    private static final Set<String> NO_SUCH = Set.of("facts", "wrong", "written", "news");
    private static final Set<String> BOTH = Set.of("life", "cost", "saves", "often", "yearly", "lines", "lives", "chain", "due", "expects");
    private static final Check CHECK = new Check();
    private static final int SOME_FIELDS = 24;
    private static final int SOME_CLASSES = 16;
    private static final int SOME_LINES = 60;

    /** By the rule: what no line of the source may have, its comments and texts left out. */
    private static final Map<Integer, String> RULED_OUT = new TreeMap<>(Map.of(
        2, "->|::|\\bvar\\b",
        3, "\\b(double|float|Object|Map|Set|Optional)\\b|\\[\\]\\[\\]",
        4, "Exact\\(|\\bimport (?!java\\.util\\.(Arrays|NoSuchElementException);)|\\bSystem\\.(?!arraycopy\\()|\\bjava\\.(?!util\\.)",
        6, "\\b(try|catch|finally|synchronized|assert|extends|getMessage|equals|hashCode|toString)\\b",
        13, "\\b(Random|Thread|nanoTime|currentTimeMillis|File|volatile|transient|native)\\b"));

    public static void main(String[] args) throws IOException {
        CHECK.part("face");
        Set<String> want = new TreeSet<>();
        for (String m : FACE.split(",")) want.add(m);
        Set<String> got = new TreeSet<>();
        Set<String> names = new HashSet<>();
        for (Method m : LifeDrawer.class.getDeclaredMethods()) {
            if (Modifier.isPublic(m.getModifiers())) {
                got.add(m.getReturnType() + " " + m.getName() + " " + m.getParameterCount());
                names.add(m.getName());
                yes("what " + m.getName() + " throws", thrown(m).equals(told(m.getName())));
            }
        }
        yes("methods " + got, got.equals(want));
        CHECK.due("methods", names.size(), 47);
        yes("public and final", Modifier.isPublic(LifeDrawer.class.getModifiers()) && Modifier.isFinal(LifeDrawer.class.getModifiers()));
        Constructor<?>[] made = LifeDrawer.class.getDeclaredConstructors();
        yes("one constructor", made.length == 1 && made[0].getParameterCount() == 0 && Modifier.isPublic(made[0].getModifiers()));
        for (Method m : LifeDrawer.class.getDeclaredMethods()) {
            int mods = m.getModifiers();
            yes(m.getName() + " is public or private", Modifier.isPublic(mods) || Modifier.isPrivate(mods));
        }
        for (Field f : LifeDrawer.class.getDeclaredFields()) {
            int mods = f.getModifiers();
            yes(f.getName() + " is private", Modifier.isPrivate(mods) || f.getName().equals("NONE"));
            yes(f.getName() + " is final if static", Modifier.isFinal(mods) || !Modifier.isStatic(mods));
        }
        int fields = inside(LifeDrawer.class, names);
        CHECK.due("some twenty fields of the class", Math.max(SOME_FIELDS, fields), SOME_FIELDS);
        Class<?>[] classes = LifeDrawer.class.getDeclaredClasses();
        CHECK.due("some twelve classes", Math.max(SOME_CLASSES, 1 + classes.length), SOME_CLASSES);
        for (Class<?> c : classes) {
            int mods = c.getModifiers();
            yes(c.getName() + " is static, not public", Modifier.isStatic(mods) && !Modifier.isPublic(mods) && !Modifier.isProtected(mods));
            CHECK.due("some twenty fields of " + c.getName(), Math.max(SOME_FIELDS, inside(c, names)), SOME_FIELDS);
        }
        source(Files.readString(Path.of("src", "main", "java", "LifeDrawer.java")));
        CHECK.close("FaceTest");
    }

    private static void source(String whole) {
        String plain = whole.replaceAll("\"[^\"\\n]*\"", "\"\"").replaceAll("(?s)/\\*.*?\\*/", "").replaceAll("//[^\\n]*", "");
        RULED_OUT.forEach((rule, words) -> {
            Matcher found = Pattern.compile(words).matcher(plain);
            yes("rule " + rule + " rules out what the source has" + (found.find() ? ": " + found.group() : ""), !found.reset().find());
        });
        yes("rule 1: no package", !Pattern.compile("(?m)^package ").matcher(plain).find());
        yes("rule 3: signs 1 to 127", whole.chars().allMatch(c -> c > 0 && c < 128));
        longMethods(whole.split("\n"));
    }

    /** A method begins and ends at its own depth of blanks. */
    private static void longMethods(String[] lines) {
        int methods = 0;
        for (int i = 0; i < lines.length; i++) {
            if (!lines[i].matches("( {4}| {8})(?!static final class)\\w.*\\).*\\{")) continue;
            String end = lines[i].replaceAll("\\S.*", "") + "}";
            int last = i;
            while (last + 1 < lines.length && !lines[last].equals(end)) last++;
            methods++;
            CHECK.due("rule 11: lines of" + lines[i].strip(), Math.max(SOME_LINES, last - i + 1), SOME_LINES);
        }
        yes("methods were seen: " + methods, methods > 47);
    }

    private static Set<String> thrown(Method m) {
        Set<String> all = new TreeSet<>();
        for (Class<?> c : m.getExceptionTypes()) all.add(c.getSimpleName());
        return all;
    }

    private static Set<String> told(String name) {
        Set<String> all = new TreeSet<>();
        if (BAD.contains(name) || BOTH.contains(name)) all.add("IllegalArgumentException");
        if (NO_SUCH.contains(name) || BOTH.contains(name)) all.add("NoSuchElementException");
        return all;
    }

    private static int inside(Class<?> c, Set<String> names) {
        int fields = 0;
        for (Field f : c.getDeclaredFields()) {
            if (!Modifier.isStatic(f.getModifiers())) fields++;
            else yes(c.getName() + "." + f.getName() + " is final", Modifier.isFinal(f.getModifiers()));
        }
        for (Method m : c.getDeclaredMethods()) {
            if (Modifier.isPrivate(m.getModifiers())) {
                yes(c.getName() + "." + m.getName() + " bears no public name", !names.contains(m.getName()));
            }
            yes(m.getName() + " takes seven at most", m.getParameterCount() <= 7);
        }
        return fields;
    }

    private static void yes(String what, boolean so) {
        CHECK.due(what, so ? 1 : 0, 1);
    }
}
