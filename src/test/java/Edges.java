import java.io.IOException;
import java.lang.reflect.InvocationTargetException;
import java.lang.reflect.Method;
import java.lang.reflect.Modifier;
import java.nio.charset.StandardCharsets;
import java.nio.file.Files;
import java.nio.file.Path;
import java.util.ArrayList;
import java.util.BitSet;
import java.util.HashMap;
import java.util.List;
import java.util.Map;
import java.util.Set;
import java.util.TreeMap;
import java.util.regex.Matcher;
import java.util.regex.Pattern;

/**
 * Boundary cases, told as rows of calls with the answers that are due. An edge bears a promise's number and the words
 * of the document (fragments parted by " | ") that name the boundary; its rows are asked of a new object:
 *
 * <pre>
 *   life(0, 5) -> 1                     a call and its answer
 *   told(1..3) -> 0 8 1                 one answer for each number of a range, or one for all
 *   loss() -> 75/4                      a fraction: asked with part 0 and with part 1
 *   drawer "life 1 1 1 1;"*8 + "x" -> fault 1 at 104
 *                                       a text, fed and read; no fault is due without "fault", and an empty tape
 *   law "1" + #255 -> fault 1 at 1      a byte by its number
 *   feed "abc" -> 20                    a text, only fed; zero bytes fill it up
 *   life(9, 0) -> nosuch                NoSuchElementException; bad: IllegalArgumentException
 *   risk(0) -> taken                    any answer, no exception
 *   16 times work "week;" -> 1          a row many times
 *   keeps life(9, 0) -> nosuch          and nothing is changed by it: a twin that is not asked so answers alike
 *   new                                 from here on another new object
 * </pre>
 *
 * Of each object status must count the refused rows, each once, and no object is asked more than 512 times.
 */
final class Edges {
    private static final Map<String, Method> FACE = new HashMap<>();
    private static final Set<String> TEXTS = Set.of("drawer", "law", "work", "page");
    private static final int CALLS_MOST = 512;

    /** Three lives. */
    static final String THREE = "\"life 60 2 10 4;life 80 8 20 2;life 30 0 5 3;has 1 10;by 1 0;fact 1 0 3;fact 1 2 5;fact 0 1 2;"
        + "hours 6;lack 5;wrong 3;half 2;\"";

    /** Of everything something: a LAW, a PAGE, WORKS, REFUSED STEPS, IMAGES, a FAULT. */
    static final String MIDWAY = "drawer " + THREE + " -> 3\n" + """
        law "age * 2 + dead * 5 + facts + years / 40 - worth / 20" -> 1
        page "0 1;2 0;" -> 2
        work "week;week;write 0;" -> 3
        image() -> 1
        work "die 2;die 2;week;renew 1;" -> 3
        image() -> 2
        page "9" -> fault 2 at 0
        """;

    /** And a text on the TAPE. */
    static final String FED = MIDWAY + "feed \"life 7 7 7 7;\" -> 20\n";

    /** Of everything all: 8 LIVES, 24 facts, WEEK 200, 16 WORKS, 3 IMAGES. */
    static final String FULL = """
        drawer "life 1 1 9 2;"*8 + "fact 0 0 1;"*12 + "fact 7 5 60;"*11 + "fact 3 1 60;has 0 3;has 7 40;by 0 7;by 7 6;" -> 8
        4 times work "again 10[again 5[week;];];" -> 50
        2 times image() -> taken
        11 times work "" -> 0
        work "die 6;die 6;write 3;die 7;" -> 3
        image() -> 3
        """;

    private final Map<Integer, Integer> promises = new TreeMap<>();
    private final List<String> quotes = new ArrayList<>();
    private int edges;
    private int asked;
    private int wrong;
    private String label = "";
    private LifeDrawer object;
    private List<Call> made = new ArrayList<>();
    private int calls;
    private int noSuch;
    private int bad;

    /** One call of the face. */
    private record Call(String name, int[] args) {
        @Override public String toString() {
            StringBuilder s = new StringBuilder(name).append('(');
            for (int i = 0; i < args.length; i++) s.append(i == 0 ? "" : ", ").append(args[i]);
            return s.append(')').toString();
        }
    }

    Edges() {
        for (Method m : LifeDrawer.class.getDeclaredMethods()) if (Modifier.isPublic(m.getModifiers())) FACE.put(m.getName(), m);
    }

    /** Edges of a promise: the words that name the boundary, and the rows. */
    void edge(int promise, String words, String rows) {
        edges++;
        promises.merge(promise, 1, Integer::sum);
        for (String part : words.split(" \\| ")) quotes.add(part);
        label = "promise " + promise + " (" + words + ")";
        begin();
        for (String row : rows.split("\n")) {
            String line = row.strip();
            if (line.equals("new")) {
                end();
                begin();
            } else if (!line.isEmpty() && !line.startsWith("//")) {
                many(line);
            }
        }
        end();
    }

    /**
     * A number's bounds, behind some rows: in the call it stands as "?". The last values that are taken and the first
     * that are not, on both sides, and the farthest; what is refused changes nothing, nor does what is only asked.
     */
    void bounds(int promise, String words, String before, String call, int least, int most, String exception) {
        boolean reads = TEXTS.contains(call.substring(0, wordEnd(call)));
        StringBuilder rows = new StringBuilder(before);
        for (long outside : new long[] {least - 1L, most + 1L, Integer.MIN_VALUE, Integer.MAX_VALUE}) {
            rows.append("\nkeeps ").append(call.replace("?", String.valueOf(outside))).append(" -> ").append(exception);
        }
        for (int inside : new int[] {least, most}) {
            if (most < least) break;
            if (reads) rows.append("\nnew\n").append(before);
            rows.append(reads ? "\n" : "\nkeeps ").append(call.replace("?", String.valueOf(inside))).append(" -> taken");
        }
        edge(promise, words, rows.toString());
    }

    /** A LIFE's bounds: without LIVES, with three and with eight; "?" is the LIFE, all else in the call may be asked so. */
    void lifeBounds(int promise, String words, String call) {
        bounds(promise, words, "", call, 0, -1, "nosuch");
        bounds(promise, words, FED, call, 0, 2, "nosuch");
        bounds(promise, words, FULL, call, 0, 7, "nosuch");
    }

    /** The bounds of another number that is asked with. */
    void askBounds(int promise, String words, String call, int least, int most) {
        bounds(promise, words, FED, call, least, most, "bad");
        bounds(promise, words, FULL, call, least, most, "bad");
    }

    int wrongAnswers() {
        return wrong;
    }

    /** Ends the program with 1 if an answer was wrong, or edges lack of what the document names. */
    void close() {
        label = "edges";
        for (int i = 1; i <= 48; i++) due("edges of promise " + i, promises.containsKey(i) ? "there" : "none", "there");
        String document = document();
        if (document.isEmpty()) {
            System.out.println("no document here to look its words up in");
        } else {
            words(document);
        }
        System.out.println("edges by promise: " + promises);
        System.out.println(edges + " edges, " + asked + " answers asked, " + wrong + " not as due");
        if (wrong != 0 || asked == 0) System.exit(1);
    }

    /** The words of each edge are the document's. */
    private void words(String document) {
        BitSet quoted = new BitSet();
        for (String quote : quotes) {
            String plain = flat(quote);
            int at = document.indexOf(plain);
            due("the words \"" + quote + "\"", at < 0 ? "not there" : "there", "there");
            for (; at >= 0; at = document.indexOf(plain, at + 1)) quoted.set(at, at + plain.length());
        }
        numbersQuoted(document, quoted);
    }

    /** Each number that the document tells from its terms on, but those in headings, stands in the words of an edge. */
    private void numbersQuoted(String document, BitSet quoted) {
        Matcher heading = Pattern.compile("## Promise \\d+|==== \\d\\.").matcher(document.substring(0, document.indexOf("## Not promised")));
        String rest = heading.replaceAll(found -> " ".repeat(found.group().length()));
        Matcher number = Pattern.compile("(?<![=\\d,])\\d+").matcher(rest);
        for (int at = document.indexOf("## Terms"); number.find(at); at = number.end()) {
            String words = rest.substring(Math.max(0, number.start() - 30), Math.min(rest.length(), number.end() + 30));
            due("edges of .." + words + "..", quoted.get(number.start()) ? "there" : "none", "there");
        }
    }

    private static String flat(String text) {
        return text.replaceAll("\\s+", " ").strip();
    }

    private static String document() {
        try {
            return flat(Files.readString(Path.of("..", "shared", "DOC.md")));
        } catch (IOException e) {
            return "";
        }
    }

    // ---- rows

    private void begin() {
        object = new LifeDrawer();
        made = new ArrayList<>();
        calls = 0;
        noSuch = 0;
        bad = 0;
    }

    private void end() {
        due("status(0)", ask(new Call("status", new int[] {0})), String.valueOf(noSuch));
        due("status(1)", ask(new Call("status", new int[] {1})), String.valueOf(bad));
        if (calls > CALLS_MOST) due("calls of one object", String.valueOf(calls), "at most " + CALLS_MOST);
    }

    private void many(String line) {
        int times = 1;
        String row = line;
        int at = line.indexOf(" times ");
        if (at > 0 && line.substring(0, at).chars().allMatch(Character::isDigit)) {
            times = Integer.parseInt(line.substring(0, at));
            row = line.substring(at + 7);
        }
        for (int i = 0; i < times; i++) row(row);
    }

    private void row(String line) {
        boolean keeps = line.startsWith("keeps ");
        String row = keeps ? line.substring(6) : line;
        int arrow = row.lastIndexOf("->");
        if (arrow < 0) throw new IllegalStateException("no answer: " + line);
        String call = row.substring(0, arrow).strip();
        String answer = row.substring(arrow + 2).strip();
        List<Call> before = new ArrayList<>(made);
        if (call.indexOf('"') > 0 && call.indexOf('(') != wordEnd(call)) {
            text(call, answer);
        } else {
            numbers(call, answer);
        }
        if (keeps) twins(call, before, made.subList(before.size(), made.size()));
    }

    private static int wordEnd(String call) {
        int i = 0;
        while (i < call.length() && Character.isLetter(call.charAt(i))) i++;
        return i;
    }

    private void text(String call, String answer) {
        int end = wordEnd(call);
        String kind = call.substring(0, end);
        byte[] bytes = bytesOf(call.substring(end));
        byte[] whole = java.util.Arrays.copyOf(bytes, (bytes.length + 19) / 20 * 20);
        String got = "0";
        for (int i = 0; i < whole.length; i += 20) {
            int[] v = new int[5];
            for (int j = 0; j < 20; j++) v[j / 4] = v[j / 4] << 8 | whole[i + j] & 255;
            got = ask(new Call("feed", v));
        }
        if (!TEXTS.contains(kind)) {
            due(call, got, answer);
            return;
        }
        Call read = new Call(kind, new int[] {bytes.length});
        String[] want = answer.split(" ");
        boolean faulty = want[0].equals("fault");
        if (refused(answer)) {
            due(call, ask(read), named(answer));
            return;
        }
        due(call, ask(read), faulty ? String.valueOf(Integer.parseInt(want[1]) - 10) : answer);
        due("fault() behind " + call, ask(new Call("fault", new int[0])), faulty ? want[3] : "-1");
        due("count(1) behind " + call, ask(new Call("count", new int[] {1})), "0");
    }

    private static byte[] bytesOf(String told) {
        StringBuilder s = new StringBuilder();
        int i = 0;
        while (i < told.length()) {
            char c = told.charAt(i);
            i++;
            if (c != '"' && c != '#') continue;
            int end = i;
            if (c == '"') end = told.indexOf('"', i);
            else while (end < told.length() && Character.isDigit(told.charAt(end))) end++;
            String part = told.substring(i, end);
            i = c == '"' ? end + 1 : end;
            int times = 1;
            if (i < told.length() && told.charAt(i) == '*') {
                int from = ++i;
                while (i < told.length() && Character.isDigit(told.charAt(i))) i++;
                times = Integer.parseInt(told.substring(from, i));
            }
            s.append((c == '"' ? part : String.valueOf((char) Integer.parseInt(part))).repeat(times));
        }
        return s.toString().getBytes(StandardCharsets.ISO_8859_1);
    }

    private void numbers(String call, String answer) {
        int end = wordEnd(call);
        String kind = call.substring(0, end);
        String inside = call.substring(end + 1, call.length() - 1).strip();
        List<int[]> all = new ArrayList<>();
        all.add(new int[0]);
        for (String part : inside.isEmpty() ? new String[0] : inside.split(",")) {
            List<int[]> longer = new ArrayList<>();
            for (int[] a : all) for (int v : range(part.strip())) longer.add(with(a, v));
            all = longer;
        }
        String[] want = answer.split(" +");
        if (want.length != 1 && want.length != all.size()) throw new IllegalStateException(label + ": answers of " + call);
        for (int i = 0; i < all.size(); i++) one(kind, all.get(i), want.length == 1 ? want[0] : want[i]);
    }

    private void one(String kind, int[] args, String want) {
        int slash = want.indexOf('/');
        if (slash < 0) {
            Call c = new Call(kind, args);
            due(c.toString(), ask(c), named(want));
            return;
        }
        Call above = new Call(kind, with(args, 0));
        Call below = new Call(kind, with(args, 1));
        due(above.toString(), ask(above), want.substring(0, slash));
        due(below.toString(), ask(below), want.substring(slash + 1));
    }

    private static int[] range(String part) {
        int dots = part.indexOf("..");
        if (dots < 0) return new int[] {number(part)};
        int from = number(part.substring(0, dots));
        int[] all = new int[number(part.substring(dots + 2)) - from + 1];
        for (int i = 0; i < all.length; i++) all[i] = from + i;
        return all;
    }

    private static int number(String part) {
        if (part.equals("min")) return Integer.MIN_VALUE;
        if (part.equals("max")) return Integer.MAX_VALUE;
        return Integer.parseInt(part);
    }

    private static int[] with(int[] a, int last) {
        int[] longer = java.util.Arrays.copyOf(a, a.length + 1);
        longer[a.length] = last;
        return longer;
    }

    private static boolean refused(String answer) {
        return answer.equals("bad") || answer.equals("nosuch");
    }

    private static String named(String answer) {
        if (answer.equals("bad")) return "IllegalArgumentException";
        return answer.equals("nosuch") ? "NoSuchElementException" : answer;
    }

    // ---- calls

    private String ask(Call c) {
        calls++;
        made.add(c);
        String got = answerOf(object, c);
        if (got.equals("NoSuchElementException")) noSuch++;
        if (got.equals("IllegalArgumentException")) bad++;
        return got;
    }

    private static String answerOf(LifeDrawer x, Call c) {
        Object[] boxed = new Object[c.args.length];
        for (int i = 0; i < boxed.length; i++) boxed[i] = c.args[i];
        Method m = FACE.get(c.name);
        if (m == null || m.getParameterCount() != boxed.length) throw new IllegalStateException("no such call: " + c);
        try {
            return String.valueOf(((Number) m.invoke(x, boxed)).longValue());
        } catch (InvocationTargetException e) {
            return e.getCause().getClass().getSimpleName();
        } catch (IllegalAccessException e) {
            return "not public";
        }
    }

    private void due(String what, String got, String want) {
        asked++;
        if (want.equals("taken") ? got.endsWith("Exception") : !got.equals(want)) {
            wrong++;
            System.out.println(label + ": " + what + " answered " + got + ", due is " + want);
        }
    }

    // ---- twins: one is asked, the other is not

    private void twins(String what, List<Call> before, List<Call> last) {
        LifeDrawer x = again(before);
        LifeDrawer y = again(before);
        boolean text = false;
        int noSuchMore = 0;
        int badMore = 0;
        for (Call c : last) {
            String got = answerOf(x, c);
            text |= TEXTS.contains(c.name) && !got.endsWith("Exception");
            if (got.equals("NoSuchElementException")) noSuchMore++;
            if (got.equals("IllegalArgumentException")) badMore++;
        }
        int most = before.size() + last.size();
        List<String> got = traits(x, !text, noSuchMore, badMore, most);
        List<String> want = traits(y, !text, 0, 0, most);
        for (int i = 0; i < want.size(); i++) {
            String one = i < got.size() ? got.get(i) : "nothing";
            due("behind " + what, one, want.get(i));
        }
        due("answers behind " + what, String.valueOf(got.size()), String.valueOf(want.size()));
    }

    private static LifeDrawer again(List<Call> before) {
        LifeDrawer x = new LifeDrawer();
        for (Call c : before) answerOf(x, c);
        return x;
    }

    /** All that an object tells, at last its tape, read as a drawer; what was refused more is left out of its status. */
    private List<String> traits(LifeDrawer x, boolean tape, int noSuchMore, int badMore, int callsBefore) {
        List<String> all = new ArrayList<>();
        all.add("status(0) " + (x.status(0) - noSuchMore));
        all.add("status(1) " + (x.status(1) - badMore));
        if (tape) {
            all.add("fault() " + x.fault());
            all.add("count(1) " + x.count(1));
        }
        now(x, all);
        for (int life = 0; life < x.told(0); life++) ofLife(x, life, all);
        for (int i = 0; i < 17; i++) {
            add(x, all, "undo");
            for (int what = 1; what <= 4; what++) add(x, all, "told", what);
        }
        for (int i = 0; i < 4; i++) {
            add(x, all, "restore");
            for (int what = 1; what <= 6; what++) add(x, all, "told", what);
            add(x, all, "loss", 0);
            add(x, all, "count", 2);
            add(x, all, "undo");
            add(x, all, "told", 1);
        }
        if (tape) {
            add(x, all, "drawer", x.count(1));
            add(x, all, "fault");
            add(x, all, "told", 0);
        }
        int most = callsBefore + all.size() + 8;
        if (most > CALLS_MOST) all.add("calls of a twin " + most + ", more than " + CALLS_MOST);
        return all;
    }

    private static void now(LifeDrawer x, List<String> all) {
        for (int what = 0; what <= 8; what++) add(x, all, "told", what);
        add(x, all, "count", 0);
        add(x, all, "count", 2);
        for (String ask : new String[] {"first", "lacking", "signed", "oldest", "twins", "whose", "worst"}) add(x, all, ask);
        for (int part = 0; part <= 1; part++) {
            add(x, all, "loss", part);
            add(x, all, "risk", part);
            add(x, all, "best", 2, part);
            add(x, all, "bestIn", 2, part);
        }
        add(x, all, "stale", 1);
        add(x, all, "would", 3, 60, 7, 1, 2);
        add(x, all, "would", 1, 2, 3, 0, 1);
    }

    private static void ofLife(LifeDrawer x, int life, List<String> all) {
        for (int what = 0; what <= 7; what++) add(x, all, "life", life, what);
        for (String ask : new String[] {"facts", "wrong", "news", "written"}) add(x, all, ask, life);
        add(x, all, "cost", life, 0);
        add(x, all, "saves", life, 0);
        add(x, all, "chain", life, 1);
    }

    private static void add(LifeDrawer x, List<String> all, String kind, int... args) {
        Call c = new Call(kind, args);
        all.add(c + " " + answerOf(x, c));
    }
}
