import java.nio.charset.StandardCharsets;
import java.util.Arrays;
import java.util.NoSuchElementException;

/** What the tests share: texts fed as numbers, answers held against those that are due. */
final class Check {
    private int asked;
    private int wrong;
    private String part = "";

    void part(String name) {
        part = name;
    }

    void due(String what, long got, long want) {
        asked++;
        if (got != want) {
            wrong++;
            System.out.println(part + ": " + what + " answered " + got + ", due is " + want);
        }
    }

    void said(String what, String got, String want) {
        asked++;
        if (!got.equals(want)) {
            wrong++;
            System.out.println(part + ": " + what + " answered " + got + ", said is " + want);
        }
    }

    void noSuch(String what, Runnable call) {
        throwsOne(what, call, NoSuchElementException.class);
    }

    void bad(String what, Runnable call) {
        throwsOne(what, call, IllegalArgumentException.class);
    }

    private void throwsOne(String what, Runnable call, Class<?> want) {
        asked++;
        Class<?> got = null;
        try {
            call.run();
        } catch (RuntimeException e) {
            got = e.getClass();
        }
        if (got != want) {
            wrong++;
            System.out.println(part + ": " + what + " threw " + got + ", due is " + want);
        }
    }

    /** Ends the program with 1 if an answer was wrong. */
    void close(String name) {
        System.out.println(name + ": " + asked + " answers asked, " + wrong + " not as due");
        if (wrong != 0 || asked == 0) {
            System.exit(1);
        }
    }

    /** Feeds a text; zero bytes fill the last twenty up. */
    static void feed(LifeDrawer x, String text) {
        byte[] bytes = Arrays.copyOf(text.getBytes(StandardCharsets.ISO_8859_1), (text.length() + 19) / 20 * 20);
        for (int i = 0; i < bytes.length; i += 20) {
            int[] v = new int[5];
            for (int j = 0; j < 20; j++) {
                v[j / 4] = v[j / 4] << 8 | bytes[i + j] & 255;
            }
            x.feed(v[0], v[1], v[2], v[3], v[4]);
        }
    }

    static int drawer(LifeDrawer x, String text) {
        feed(x, text);
        return x.drawer(text.length());
    }

    static int law(LifeDrawer x, String text) {
        feed(x, text);
        return x.law(text.length());
    }

    static int work(LifeDrawer x, String text) {
        feed(x, text);
        return x.work(text.length());
    }

    static int page(LifeDrawer x, String text) {
        feed(x, text);
        return x.page(text.length());
    }

    static LifeDrawer with(String drawer) {
        LifeDrawer x = new LifeDrawer();
        drawer(x, drawer);
        return x;
    }

    void fraction(String what, long above, long below, long wantAbove, long wantBelow) {
        due(what + " above", above, wantAbove);
        due(what + " below", below, wantBelow);
    }
}
