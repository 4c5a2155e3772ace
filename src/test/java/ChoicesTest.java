/** Promises 22 to 30: the best weeks, how often to renew, a rumour, room on a page. */
public final class ChoicesTest {
    private static final Check CHECK = new Check();

    public static void main(String[] args) {
        best();
        bestByWeeks();
        bestAskedAgain();
        bestRefusals();
        often();
        yearly();
        brings();
        says();
        line();
        room();
        roomRefusals();
        CHECK.close("ChoicesTest");
    }

    private static void bestOf(LifeDrawer x, int n, long above, long below, int... bits) {
        CHECK.fraction("best of " + n, x.best(n, 0), x.best(n, 1), above, below);
        for (int k = 0; k < n; k++) CHECK.due("bestIn(" + n + ", " + k + ")", x.bestIn(n, k), bits[k]);
    }

    private static void best() {
        CHECK.part("promises 22 and 23");
        bestOf(NowTest.three(), 1, 0, 1, 3);
        bestOf(NowTest.three(), 2, 0, 1, 3, 3);
        bestOf(NowTest.three(), 3, 0, 1, 3, 3, 3);
        LifeDrawer x = Check.with("life 1 64 10 4;life 1 64 10 4;hours 4;");
        bestOf(x, 1, 50, 1, 1);
        bestOf(x, 2, 50, 1, 1, 0);
        bestOf(x, 3, 50, 1, 1, 0, 0);
        Check.work(x, "write 0;");
        bestOf(x, 1, 50, 1, 0);
        CHECK.due("hours of this week are gone", x.bestIn(3, 0), 0);
        Check.work(x, "week;die 0;");
        bestOf(x, 2, 0, 1, 2, 0);
        Check.law(x, "64");
        bestOf(x, 1, 30, 1, 2);
        LifeDrawer worse = Check.with("life 1 64 10 4;has 0 9;");
        Check.law(worse, "64 - age");
        bestOf(worse, 1, 825, 32, 0);
    }

    private static void bestByWeeks() {
        CHECK.part("promises 22 and 23, weeks");
        LifeDrawer x = Check.with("life 1 32 10 4;life 1 32 10 4;hours 4;");
        // one lacks in this week: 25; the other's piece is a week old in the next one: 15 of 64
        bestOf(x, 2, 1615, 64, 1, 2);
        bestOf(x, 1, 25, 1, 1);
        // then both may be renewed, by two hours each
        bestOf(x, 3, 1615, 64, 1, 2, 3);
        // half of those who can die do so ahead of the second week
        LifeDrawer y = Check.with("life 1 32 8 9;has 0 1;hours 1;half 1;");
        CHECK.fraction("best", y.best(2, 0), y.best(2, 1), 3, 4);
        LifeDrawer facts = Check.with("life 1 64 8 2;life 1 16 8 2;has 0 0;has 1 4;fact 0 0 1;fact 1 0 1;hours 2;half 2;");
        Check.law(facts, "facts * 16");
        // facts go on: in the second week a quarter's rest loses a sixteenth, unless renewed then
        bestOf(facts, 2, 0, 1, 0, 2);
        LifeDrawer signed = Check.with("life 1 64 8 2;life 1 64 8 2;has 0 3;has 1 3;by 1 0;");
        Check.law(signed, "dead * 32");
        bestOf(signed, 3, 0, 1, 0, 0, 0);
        LifeDrawer late = Check.with("life 1 32 10 1;");
        for (int i = 0; i < 4; i++) Check.work(late, "again 17 [again 3 [week;];];");
        CHECK.due("week", late.told(1), 200);
        bestOf(late, 3, 0, 1, 1, 1, 1);
    }

    /** An answer is not to be taken from what was so when it was asked before. */
    private static void bestAskedAgain() {
        CHECK.part("promises 22 and 23, asked again");
        LifeDrawer x = Check.with("life 1 64 10 9;has 0 32;");
        Check.work(x, "");
        bestOf(x, 1, 0, 1, 1);
        Check.law(x, "32");
        bestOf(x, 1, 15, 1, 0);
        Check.work(x, "die 0;");
        bestOf(x, 1, 0, 1, 0);
        x.undo();
        bestOf(x, 1, 15, 1, 0);
        x.image();
        Check.work(x, "die 0;");
        bestOf(x, 1, 0, 1, 0);
        x.restore();
        bestOf(x, 1, 15, 1, 0);
        Check.drawer(x, "life 1 64 4 9;hours 8;");
        bestOf(x, 1, 20, 1, 0);
        LifeDrawer wide = Check.with("life 1 1 9 9;life 1 64 9 9;life 1 64 9 3;hours 12;half 1;");
        bestOf(wide, 3, 45, 64, 6, 1, 1);
    }

    private static void bestRefusals() {
        CHECK.part("promises 22 and 23, refusals");
        LifeDrawer x = NowTest.three();
        CHECK.bad("best(0, 0)", () -> x.best(0, 0));
        CHECK.bad("best(4, 0)", () -> x.best(4, 0));
        CHECK.bad("best(1, 2)", () -> x.best(1, 2));
        CHECK.bad("best(1, -1)", () -> x.best(1, -1));
        CHECK.bad("bestIn(0, 0)", () -> x.bestIn(0, 0));
        CHECK.bad("bestIn(4, 0)", () -> x.bestIn(4, 0));
        CHECK.bad("bestIn(2, 2)", () -> x.bestIn(2, 2));
        CHECK.bad("bestIn(2, -1)", () -> x.bestIn(2, -1));
        CHECK.due("status(1)", x.status(1), 8);
        CHECK.due("asked, nothing stays changed", x.told(4), 1);
    }

    private static void often() {
        CHECK.part("promise 24");
        LifeDrawer x = NowTest.three();
        CHECK.due("often(1, 0)", x.often(1, 0), 1);
        CHECK.due("often(1, 1)", x.often(1, 1), 3);
        CHECK.due("often(1, 999)", x.often(1, 999), 30);
        CHECK.due("often(0, 1)", x.often(0, 1), 12);
        CHECK.due("who can't die", x.often(2, 7), 30);
        CHECK.due("all alike", x.often(2, 0), 1);
        Check.law(x, "facts * 64");
        CHECK.due("no facts changed", x.often(1, 1), 30);
        CHECK.noSuch("often(3, 0)", () -> x.often(3, 0));
        CHECK.noSuch("often(-1, -1)", () -> x.often(-1, -1));
        CHECK.bad("often(0, -1)", () -> x.often(0, -1));
        CHECK.bad("often(0, 1000)", () -> x.often(0, 1000));
        CHECK.due("status(0)", x.status(0), 2);
        CHECK.due("status(1)", x.status(1), 2);
    }

    private static void yearly() {
        CHECK.part("promise 25");
        LifeDrawer x = NowTest.three();
        CHECK.fraction("yearly", x.yearly(1, 1, 3, 0), x.yearly(1, 1, 3, 1), 109, 192);
        CHECK.fraction("of k 1", x.yearly(1, 5, 1, 0), x.yearly(1, 5, 1, 1), 5, 1);
        CHECK.fraction("who can't die", x.yearly(2, 7, 30, 0), x.yearly(2, 7, 30, 1), 7, 30);
        CHECK.fraction("two hours", x.yearly(0, 999, 30, 0), x.yearly(0, 999, 30, 1), 333 * 1024 + 435 * 5, 5120);
        Check.work(x, "die 0;");
        Check.law(x, "dead * 32 + years / 40 + worth / 20");
        // 32 and 2 and 1 of 64 in each week: 8 of 64 of 3 times 20 times 35 of 64
        CHECK.fraction("as they are now", x.yearly(1, 0, 9, 0), x.yearly(1, 0, 9, 1), 525, 128);
        LifeDrawer year = Check.with("life 0 64 64 1;wrong 1;fact 0 0 51;fact 0 0 52;");
        Check.work(year, "again 17 [again 3 [week;];];");
        Check.law(year, "years + facts");
        CHECK.fraction("in week 51", year.yearly(0, 0, 2, 0), year.yearly(0, 0, 2, 1), 0, 1);
        Check.work(year, "week;");
        CHECK.fraction("in week 52", year.yearly(0, 0, 2, 0), year.yearly(0, 0, 2, 1), 1, 1);
        CHECK.noSuch("yearly(3, ..)", () -> x.yearly(3, 0, 1, 0));
        CHECK.noSuch("yearly(-1, ..)", () -> x.yearly(-1, 0, 0, 0));
        CHECK.bad("c -1", () -> x.yearly(0, -1, 1, 0));
        CHECK.bad("c 1000", () -> x.yearly(0, 1000, 1, 0));
        CHECK.bad("k 0", () -> x.yearly(0, 0, 0, 0));
        CHECK.bad("k 31", () -> x.yearly(0, 0, 31, 0));
        CHECK.bad("part 2", () -> x.yearly(0, 0, 1, 2));
        CHECK.bad("part -1", () -> x.yearly(0, 0, 1, -1));
        CHECK.due("status(0)", x.status(0), 2);
        CHECK.due("status(1)", x.status(1), 6);
    }

    private static void brings() {
        CHECK.part("promise 26");
        LifeDrawer x = new LifeDrawer();
        CHECK.due("run", x.brings(8, 4, 10, 20, 5, 0), -1280);
        CHECK.due("ring", x.brings(8, 4, 10, 20, 5, 1), 640);
        CHECK.due("wait", x.brings(8, 4, 10, 20, 5, 2), 960);
        CHECK.due("run", x.brings(16, 16, 999, 999, 999, 0), 999 * 256);
        CHECK.due("run", x.brings(0, 16, 999, 999, 999, 0), -999 * 256);
        CHECK.due("ring", x.brings(0, 0, 999, 998, 999, 1), -999 * 256);
        CHECK.due("wait", x.brings(16, 0, 999, 0, 0, 2), 999 * 256);
        CHECK.due("wait", x.brings(16, 16, 999, 0, 0, 2), 0);
        int[][] bad = {{-1, 0, 0, 0, 0, 0}, {17, 0, 0, 0, 0, 0}, {0, -1, 0, 0, 0, 0}, {0, 17, 0, 0, 0, 0}, {0, 0, -1, 0, 0, 0},
            {0, 0, 1000, 0, 0, 0}, {0, 0, 0, -1, 0, 0}, {0, 0, 0, 1000, 0, 0}, {0, 0, 0, 0, -1, 0}, {0, 0, 0, 0, 1000, 0},
            {0, 0, 0, 0, 0, -1}, {0, 0, 0, 0, 0, 3}};
        for (int[] a : bad) CHECK.bad("brings " + java.util.Arrays.toString(a), () -> x.brings(a[0], a[1], a[2], a[3], a[4], a[5]));
        CHECK.due("status(1)", x.status(1), bad.length);
    }

    private static void says() {
        CHECK.part("promise 27");
        LifeDrawer x = new LifeDrawer();
        CHECK.due("wait", x.says(8, 4, 10, 20, 5), 2);
        CHECK.due("run", x.says(14, 12, 90, 40, 60), 0);
        CHECK.due("ring", x.says(14, 12, 90, 60, 40), 1);
        CHECK.due("run and ring alike", x.says(14, 12, 90, 40, 40), 0);
        CHECK.due("all alike", x.says(8, 8, 0, 0, 0), 0);
        CHECK.due("ring and wait alike", x.says(0, 8, 5, 5, 0), 1);
        int[][] bad = {{-1, 0, 0, 0, 0}, {17, 0, 0, 0, 0}, {0, -1, 0, 0, 0}, {0, 17, 0, 0, 0}, {0, 0, -1, 0, 0}, {0, 0, 1000, 0, 0},
            {0, 0, 0, -1, 0}, {0, 0, 0, 1000, 0}, {0, 0, 0, 0, -1}, {0, 0, 0, 0, 1000}};
        for (int[] a : bad) CHECK.bad("says " + java.util.Arrays.toString(a), () -> x.says(a[0], a[1], a[2], a[3], a[4]));
        CHECK.due("status(1)", x.status(1), bad.length);
    }

    private static void line() {
        CHECK.part("promise 28");
        LifeDrawer x = new LifeDrawer();
        CHECK.due("line", x.line(4, 10, 20, 5), 16);
        CHECK.due("line", x.line(12, 90, 40, 60), 6);
        CHECK.due("all alike", x.line(16, 0, 0, 0), 0);
        CHECK.due("nothing is lost", x.line(0, 9, 0, 0), 0);
        CHECK.due("sure alone", x.line(0, 50, 50, 9), 16);
        int[][] bad = {{-1, 0, 0, 0}, {17, 0, 0, 0}, {0, -1, 0, 0}, {0, 1000, 0, 0}, {0, 0, -1, 0}, {0, 0, 1000, 0}, {0, 0, 0, -1}, {0, 0, 0, 1000}};
        for (int[] a : bad) CHECK.bad("line " + java.util.Arrays.toString(a), () -> x.line(a[0], a[1], a[2], a[3]));
        CHECK.due("status(1)", x.status(1), bad.length);
    }

    private static void roomOf(LifeDrawer x, int lives, int r, int worth, int... lines) {
        CHECK.due("room(" + lives + ", " + r + ")", x.room(lives, r), worth);
        for (int i = 0; i < lines.length; i++) CHECK.due("lines(" + lives + ", " + r + ", " + i + ")", x.lines(lives, r, i), lines[i]);
    }

    private static void room() {
        CHECK.part("promises 29 and 30");
        LifeDrawer x = NowTest.three();
        roomOf(x, 7, 20, 65, 10, 3, 5);
        roomOf(x, 3, 20, 60, 0, 20, 0);
        roomOf(x, 7, 200, 105, 10, 20, 5);
        roomOf(x, 7, 35, 105, 10, 20, 5);
        roomOf(x, 7, 34, 95, 10, 20, 3);
        roomOf(x, 7, 2, 0, 0, 0, 0);
        roomOf(x, 7, 3, 20, 0, 3, 0);
        roomOf(x, 0, 200, 0, 0, 0, 0);
        roomOf(x, 1, 0, 0, 0, 0, 0);
        roomOf(new LifeDrawer(), 0, 5, 0);
        LifeDrawer alike = Check.with("life 1 1 10 1;life 1 1 10 1;");
        roomOf(alike, 3, 10, 30, 0, 10);
        roomOf(alike, 3, 13, 40, 3, 10);
        roomOf(alike, 3, 5, 10, 0, 3);
        Check.work(alike, "die 0;die 1;");
        roomOf(alike, 3, 13, 40, 3, 10);
        LifeDrawer small = Check.with("life 1 1 1 1;life 1 1 3 1;life 1 1 9 1;");
        roomOf(small, 7, 1, 3, 1, 0, 0);
        roomOf(small, 7, 3, 9, 0, 0, 3);
        roomOf(small, 7, 6, 18, 0, 3, 3);
        roomOf(small, 7, 7, 21, 1, 3, 3);
        LifeDrawer wide = Check.with("life 1 1 99 1;".repeat(8));
        roomOf(wide, 192, 200, 2 * 297, 0, 0, 0, 0, 0, 0, 99, 99);
        roomOf(wide, 255, 200, 297 + 7 * 99, 3, 3, 3, 3, 3, 3, 3, 99);
        roomOf(wide, 255, 120, 297 + 7 * 99, 3, 3, 3, 3, 3, 3, 3, 99);
    }

    private static void roomRefusals() {
        CHECK.part("promises 29 and 30, refusals");
        LifeDrawer x = NowTest.three();
        CHECK.bad("room(8, 5)", () -> x.room(8, 5));
        CHECK.bad("room(-1, 5)", () -> x.room(-1, 5));
        CHECK.bad("room(7, 201)", () -> x.room(7, 201));
        CHECK.bad("room(7, -1)", () -> x.room(7, -1));
        CHECK.bad("room(1, 5) of none", () -> new LifeDrawer().room(1, 5));
        CHECK.noSuch("lines(7, 5, 3)", () -> x.lines(7, 5, 3));
        CHECK.noSuch("lines(8, 500, -1)", () -> x.lines(8, 500, -1));
        CHECK.bad("lines(8, 5, 0)", () -> x.lines(8, 5, 0));
        CHECK.bad("lines(7, 201, 0)", () -> x.lines(7, 201, 0));
        CHECK.bad("lines(7, -1, 0)", () -> x.lines(7, -1, 0));
        CHECK.due("status(0)", x.status(0), 2);
        CHECK.due("status(1)", x.status(1), 7);
    }
}
