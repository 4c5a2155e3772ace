import java.lang.reflect.InvocationTargetException;
import java.lang.reflect.Method;
import java.lang.reflect.Modifier;
import java.util.ArrayList;
import java.util.HashMap;
import java.util.List;
import java.util.Map;
import java.util.NoSuchElementException;
import java.util.Random;

/** Random runs of calls, asked of the class and of the plain model alike. Arguments: first seed, how many runs. */
public final class ModelTest {
    private static final Map<String, Method> FACE = new HashMap<>();
    private static final String[] ASKS = {"told", "life", "facts", "wrong", "would", "loss", "cost", "risk", "saves", "first",
        "lacking", "signed", "stale", "best", "bestIn", "often", "yearly", "brings", "says", "line", "room", "lines", "apart",
        "twins", "written", "whose", "ahead", "lives", "oldest", "chain", "due", "news", "expects", "worst", "years", "span",
        "status", "count", "fault"};

    private final Random random;
    private final LifeDrawer real = new LifeDrawer();
    private final Model model = new Model();
    private final List<String> log = new ArrayList<>();
    private int calls;

    private ModelTest(long seed) { random = new Random(seed); }

    public static void main(String[] args) {
        for (Method m : LifeDrawer.class.getDeclaredMethods()) if (Modifier.isPublic(m.getModifiers())) FACE.put(m.getName(), m);
        long first = args.length > 0 ? Long.parseLong(args[0]) : 1;
        int runs = args.length > 1 ? Integer.parseInt(args[1]) : 400;
        int wrong = 0;
        for (long seed = first; seed < first + runs && wrong < 5; seed++) {
            ModelTest t = new ModelTest(seed);
            String why = t.run();
            if (why != null) {
                wrong++;
                System.out.println("seed " + seed + ":");
                int from = Math.max(0, t.log.size() - 25);
                for (String l : t.log.subList(from, t.log.size())) System.out.println("  " + l);
                System.out.println("  " + why);
            }
        }
        System.out.println(wrong == 0 ? "the class answers as the model does" : "the class does not answer as the model does");
        if (wrong != 0) System.exit(1);
    }

    private String run() {
        String why = null;
        int rounds = 1 + random.nextInt(4);
        for (int i = 0; i < rounds && why == null; i++) {
            why = text("drawer", drawerText(), 600);
            for (int j = 0; j < 12 && why == null; j++) why = round();
        }
        return why;
    }

    private String round() {
        String why = null;
        switch (random.nextInt(8)) {
            case 0: why = text("law", lawText(), 150); break;
            case 1: why = text("page", pageText(), 60); break;
            case 2: why = call("undo"); break;
            case 3: why = call("image"); break;
            case 4: why = call("restore"); break;
            default: why = text("work", workText(), 150); break;
        }
        for (int i = 0; i < 18 && why == null && calls < 505; i++) why = ask(ASKS[random.nextInt(ASKS.length)]);
        return why;
    }

    private String text(String name, String text, int most) {
        if (random.nextInt(6) == 0) text = spoil(text);
        if (text.length() > most && random.nextInt(8) != 0) text = text.substring(0, most);
        String why = null;
        byte[] b = java.util.Arrays.copyOf(text.getBytes(java.nio.charset.StandardCharsets.ISO_8859_1), (text.length() + 19) / 20 * 20);
        for (int i = 0; i < b.length && why == null; i += 20) {
            int[] v = new int[5];
            for (int j = 0; j < 20; j++) v[j / 4] = v[j / 4] << 8 | b[i + j] & 255;
            why = call("feed", v);
        }
        log.add("text: " + text);
        if (why == null) why = call(name, random.nextInt(40) == 0 ? text.length() + random.nextInt(40) - 20 : text.length());
        return why != null ? why : call("fault");
    }

    private String call(String name, int... a) {
        calls++;
        if (calls > 512) return null;
        String got = realAnswer(name, a);
        String want = modelAnswer(name, a);
        log.add(name + java.util.Arrays.toString(a) + " -> " + want);
        return got.equals(want) ? null : name + java.util.Arrays.toString(a) + " answered " + got + ", the model " + want;
    }

    private String realAnswer(String name, int[] a) {
        Object[] boxed = new Object[a.length];
        for (int i = 0; i < a.length; i++) boxed[i] = a[i];
        try {
            return String.valueOf(((Number) FACE.get(name).invoke(real, boxed)).longValue());
        } catch (InvocationTargetException e) {
            return e.getCause().getClass().getSimpleName();
        } catch (IllegalAccessException e) {
            return "not public";
        }
    }

    private String modelAnswer(String name, int[] a) {
        try {
            return String.valueOf(model.call(name, a));
        } catch (NoSuchElementException | IllegalArgumentException e) {
            return e.getClass().getSimpleName();
        }
    }

    // ---- questions

    private int at(int least, int most) {
        if (random.nextInt(150) == 0) return random.nextBoolean() ? least - 1 : most + 1;
        if (random.nextInt(2000) == 0) return random.nextInt();
        return least + random.nextInt(most - least + 1);
    }

    private int life() { return at(0, Math.max(0, model.lives() - 1)); }
    private int bits() { return at(0, (1 << model.lives()) - 1); }
    private int part() { return at(0, 1); }

    private String ask(String name) {
        boolean wide = model.lives() > 5;
        int n = at(1, wide ? 2 : 3);
        if (model.lives() > 7) n = 1;
        int[] rumour = {at(0, 16), at(0, 16), at(0, 999), at(0, 999), at(0, 999), at(0, 2)};
        if (random.nextBoolean()) for (int i = 2; i < 5; i++) rumour[i] = at(0, 4);
        switch (name) {
            case "told": return call(name, at(0, 8));
            case "life": return call(name, life(), at(0, 7));
            case "chain": return call(name, life(), at(0, 1));
            case "would": return call(name, at(0, 200), at(0, 200), at(1, 99), at(0, 1), at(0, 24));
            case "loss": case "risk": return call(name, part());
            case "cost": case "saves": return call(name, life(), part());
            case "stale": return call(name, at(0, 65));
            case "best": return call(name, n, part());
            case "bestIn": return call(name, n, at(0, Math.max(0, n - 1)));
            case "often": return call(name, life(), random.nextBoolean() ? at(0, 5) : at(0, 999));
            case "yearly": return call(name, life(), at(0, 999), at(1, 30), part());
            case "brings": return call(name, rumour);
            case "says": return call(name, java.util.Arrays.copyOf(rumour, 5));
            case "line": return call(name, java.util.Arrays.copyOfRange(rumour, 1, 5));
            case "room": return call(name, bits(), at(0, 200));
            case "lines": return call(name, bits(), random.nextBoolean() ? at(0, 30) : at(0, 200), life());
            case "apart": return call(name, bits(), at(0, 1));
            case "ahead": return call(name, at(0, 60), part());
            case "lives": return call(name, life(), at(0, 8), part());
            case "due": return call(name, life(), at(0, 65));
            case "expects": return call(name, life(), at(0, 7), part());
            case "years": return call(name, random.nextInt(), random.nextBoolean() ? at(1, 5) : at(1, 60), at(0, 4));
            case "span": return call(name, random.nextInt(), at(1, 5), at(1, 20), at(0, 3), life());
            case "status": case "count": return call(name, at(0, 2));
            case "facts": case "wrong": case "written": case "news": return call(name, life());
            default: return call(name);
        }
    }

    // ---- texts

    private String blank() { return random.nextInt(5) == 0 ? " ".repeat(random.nextInt(3)) : ""; }
    private String number(int least, int most) {
        int v = random.nextInt(300) == 0 ? most + 1 : least + random.nextInt(Math.max(1, most - least + 1));
        return blank() + " " + (random.nextInt(30) == 0 ? "00" : "") + v;
    }

    private String drawerText() {
        StringBuilder s = new StringBuilder();
        int many = random.nextInt(20) == 0 ? 9 : random.nextInt(10) == 0 ? random.nextInt(9) : 1 + random.nextInt(4);
        boolean alike = random.nextInt(3) == 0;
        String same = number(0, 110) + number(0, 64) + number(1, 9) + number(1, 3);
        int lives = 0;
        int clauses = many + random.nextInt(random.nextInt(10) == 0 ? 60 : 14);
        for (int i = 0; i < clauses; i++) {
            s.append(blank());
            int last = lives - 1;
            if (lives < many && (lives < 2 || random.nextInt(3) == 0)) {
                s.append("life").append(alike ? same : number(0, 110) + number(0, 64) + number(1, 99) + number(1, 9));
                lives++;
            } else if (lives > 0) {
                switch (random.nextInt(8)) {
                    case 0: case 1: s.append("has").append(number(0, last)).append(number(0, 40)); break;
                    case 2: s.append("by").append(number(0, last)).append(number(0, last)); break;
                    case 3: s.append("hours").append(number(1, 12)); break;
                    case 4: s.append(random.nextBoolean() ? "lack" : "wrong").append(number(0, 9)); break;
                    case 5: s.append("half").append(number(1, 4)); break;
                    default: s.append("fact").append(number(0, last)).append(number(0, random.nextBoolean() ? 1 : 5))
                        .append(number(1, random.nextBoolean() ? 5 : 60));
                }
            } else s.append("hours").append(number(1, 12));
            s.append(blank()).append(';');
        }
        return s.append(blank()).toString();
    }

    private String lawText() {
        String s = sum(random.nextInt(4));
        if (random.nextInt(20) == 0) {
            int n = 5 + random.nextInt(3);
            s = "(".repeat(n) + s + ")".repeat(n);
        }
        return s + blank();
    }

    private String sum(int depth) {
        StringBuilder s = new StringBuilder(product(depth));
        while (random.nextInt(3) == 0) s.append(blank()).append(random.nextBoolean() ? '+' : '-').append(product(depth));
        return s.toString();
    }

    private String product(int depth) {
        StringBuilder s = new StringBuilder(unit(depth));
        while (random.nextInt(3) == 0) s.append(blank()).append(random.nextBoolean() ? '*' : '/').append(unit(depth));
        return s.toString();
    }

    private String unit(int depth) {
        String[] words = {"age", "years", "worth", "dead", "facts", "age"};
        int kind = random.nextInt(depth > 0 ? 9 : 6);
        if (kind == 6) return blank() + "(" + sum(depth - 1) + blank() + ")";
        if (kind > 6) return blank() + (kind == 7 ? "least" : "most") + blank() + "[" + sum(depth - 1) + blank() + "," + sum(depth - 1) + blank() + "]";
        return kind < 2 ? number(0, random.nextBoolean() ? 9 : 999) : blank() + words[random.nextInt(words.length)];
    }

    private String workText() {
        if (random.nextInt(8) == 0) return "again " + random.nextInt(21) + "[again" + random.nextInt(21) + "[week;];];";
        return steps(0, 1 + random.nextInt(8)) + blank();
    }

    private String steps(int open, int many) {
        StringBuilder s = new StringBuilder();
        int last = model.lives() - 1;
        for (int i = 0; i < many; i++) {
            s.append(blank());
            switch (random.nextInt(8)) {
                case 0: s.append("die").append(number(0, last)); break;
                case 1: case 2: s.append("write").append(number(0, last)); break;
                case 3: case 4: s.append("renew").append(number(0, last)); break;
                case 5:
                    s.append("again").append(number(0, random.nextBoolean() ? 3 : 20)).append(blank()).append('[')
                        .append(steps(open + 1, random.nextInt(4))).append(blank()).append(']');
                    break;
                default: s.append("week");
            }
            s.append(blank()).append(';');
        }
        return s.toString();
    }

    private String pageText() {
        StringBuilder s = new StringBuilder();
        for (int i = random.nextInt(4); i > 0; i--) s.append(number(0, 5)).append(number(0, 1)).append(blank()).append(';');
        return s.append(blank()).toString();
    }

    private String spoil(String text) {
        StringBuilder s = new StringBuilder(text);
        String signs = " ;[](),+-*/0159az{A" + (char) 255 + (char) 0;
        for (int i = 1 + random.nextInt(2); i > 0 && s.length() > 0; i--) {
            int at = random.nextInt(s.length());
            switch (random.nextInt(4)) {
                case 0: s.deleteCharAt(at); break;
                case 1: s.setCharAt(at, signs.charAt(random.nextInt(signs.length()))); break;
                case 2: s.insert(at, signs.charAt(random.nextInt(signs.length()))); break;
                default: s.setLength(at);
            }
        }
        return s.toString();
    }
}
