/** Promises 43 to 48: years by seeds, images, counts. The seed 5 draws 31, 9, 56, 5; 6: 38, 43, 54, 12, 50, 9; 7: 44, 14. */
public final class YearsTest {
    private static final Check CHECK = new Check();

    public static void main(String[] args) {
        deaths();
        pieces();
        hours();
        yearsRefusals();
        span();
        images();
        imageKeeps();
        status();
        count();
        CHECK.close("YearsTest");
    }

    private static void yearsOf(LifeDrawer x, int seed, int weeks, int... want) {
        for (int i = 0; i < want.length; i++) {
            CHECK.due("years(" + seed + ", " + weeks + ", " + i + ")", x.years(seed, weeks, i), want[i]);
        }
    }

    private static void deaths() {
        CHECK.part("promise 43, deaths");
        LifeDrawer x = Check.with("life 1 31 10 9;");
        yearsOf(x, 5, 1, 1, 0, 0, 0, 0);
        yearsOf(x, 5, 2, 0, 1, 0, 0, 50);
        yearsOf(x, 5, 60, 0, 1, 0, 0, 50);
        yearsOf(Check.with("life 1 32 10 9;"), 5, 1, 0, 1, 0, 0, 50);
        yearsOf(Check.with("life 1 32 10 9;life 1 10 20 9;"), 5, 1, 0, 2, 0, 0, 150);
        // the dead do not draw: 31, 9 (dies), 56, 5 (dies)
        LifeDrawer y = Check.with("life 1 10 10 9;life 1 10 20 9;");
        yearsOf(y, 5, 1, 1, 1, 0, 0, 100);
        yearsOf(y, 5, 2, 1, 1, 0, 0, 100);
        yearsOf(y, 5, 3, 0, 2, 0, 0, 150);
        CHECK.due("nothing stays changed", y.told(3), 2);
        CHECK.due("nothing stays changed", y.told(1), 0);
        CHECK.fraction("nothing stays changed", y.loss(0), y.loss(1), 0, 1);
        Check.work(y, "die 0;");
        yearsOf(y, 5, 1, 1, 0, 0, 0, 0);
        yearsOf(y, 5, 2, 0, 1, 0, 0, 100);
        CHECK.due("the seed 0 draws 0", Check.with("life 1 1 10 9;").years(0, 1, 0), 0);
        CHECK.due("a seed below 0 draws 57", Check.with("life 1 57 10 9;").years(-1, 1, 0), 1);
        CHECK.due("a seed below 0 draws 57", Check.with("life 1 58 10 9;").years(-1, 1, 0), 0);
        LifeDrawer before = Check.with("life 1 0 33 9;life 1 64 20 9;has 0 7;has 1 16;");
        Check.work(before, "die 0;");
        yearsOf(before, 5, 1, 0, 0, 1, 0, 30);
        CHECK.due("what was lost before is not in them", Check.with("life 1 64 1 9;lack 0;").years(5, 1, 4), 0);
        yearsOf(Check.with("life 1 64 20 9;has 0 5;"), 5, 1, 0, 0, 1, 0, 9);
        // who dies first is dead for the next one's piece
        LifeDrawer signed = Check.with("life 1 64 1 9;life 1 64 20 9;has 0 0;has 1 0;by 0 1;by 1 0;");
        Check.law(signed, "dead * 64");
        yearsOf(signed, 5, 1, 0, 0, 2, 0, 60);
    }

    private static void pieces() {
        CHECK.part("promise 43, pieces");
        LifeDrawer x = Check.with("life 1 0 10 4;life 1 8 10 4;life 1 8 20 4;hours 9;");
        yearsOf(x, 6, 1, 3, 0, 0, 2, 0);
        yearsOf(x, 6, 2, 3, 0, 0, 4, 0);
        LifeDrawer y = Check.with("life 1 0 10 4;life 1 8 10 4;life 1 8 20 4;hours 5;");
        yearsOf(y, 6, 1, 3, 0, 0, 1, 0);
        yearsOf(y, 6, 2, 3, 0, 0, 2, 0);
        CHECK.due("first of those whose hours are there", Check.with("life 1 8 90 4;life 1 8 10 3;hours 3;").years(6, 1, 3), 1);
        yearsOf(Check.with("life 1 8 9 4;life 1 8 9 4;life 1 8 9 4;hours 12;"), 6, 1, 3, 0, 0, 3, 0);
        CHECK.due("what saves nothing is left", Check.with("life 1 8 90 4;has 0 0;").years(6, 1, 3), 0);
    }

    private static void hours() {
        CHECK.part("promise 43, hours");
        yearsOf(Check.with("life 1 64 1 9;life 1 8 10 4;hours 5;"), 6, 1, 1, 1, 0, 0, 5);
        yearsOf(Check.with("life 1 64 1 9;life 1 8 10 4;hours 6;"), 6, 1, 1, 1, 0, 1, 5);
        LifeDrawer x = Check.with("life 1 0 1 4;life 1 8 10 4;hours 6;");
        Check.work(x, "write 0;");
        yearsOf(x, 6, 1, 2, 0, 0, 0, 0);
        yearsOf(x, 6, 2, 2, 0, 0, 1, 0);
    }

    private static void yearsRefusals() {
        CHECK.part("promise 43, refusals");
        LifeDrawer x = NowTest.three();
        CHECK.bad("weeks 0", () -> x.years(1, 0, 0));
        CHECK.bad("weeks 61", () -> x.years(1, 61, 0));
        CHECK.bad("what -1", () -> x.years(1, 1, -1));
        CHECK.bad("what 5", () -> x.years(1, 1, 5));
        CHECK.due("status(1)", x.status(1), 4);
        CHECK.due("no lives", new LifeDrawer().years(1, 60, 0), 0);
    }

    private static void spanOf(LifeDrawer x, int seed, int many, int weeks, int... want) {
        for (int i = 0; i < want.length; i++) {
            CHECK.due("span(" + seed + ", " + many + ", " + weeks + ", " + i + ", 0)", x.span(seed, many, weeks, i, 0), want[i]);
        }
    }

    private static void span() {
        CHECK.part("promise 44");
        LifeDrawer x = Check.with("life 1 31 10 9;");
        spanOf(x, 5, 1, 1, 0, 0, 0, 1);
        spanOf(x, 5, 3, 2, 0, 1, 2, 1);
        spanOf(x, 7, 1, 2, 1, 1, 1, 0);
        spanOf(x, -1, 2, 1, 0, 1, 1, 1);
        LifeDrawer two = Check.with("life 1 0 1 1;life 1 64 1 9;");
        CHECK.due("alive", two.span(9, 20, 60, 3, 0), 20);
        CHECK.due("not alive", two.span(9, 20, 60, 3, 1), 0);
        CHECK.due("all", two.span(9, 20, 60, 2, 1), 20);
        CHECK.due("seeds wrap", two.span(Integer.MAX_VALUE, 3, 2, 2, 1), 3);
        CHECK.due("nothing stays changed", two.told(3), 2);
        CHECK.bad("many 0", () -> x.span(1, 0, 1, 0, 0));
        CHECK.bad("many 21", () -> x.span(1, 21, 1, 0, 0));
        CHECK.bad("weeks 0", () -> x.span(1, 1, 0, 0, 0));
        CHECK.bad("weeks 61", () -> x.span(1, 1, 61, 0, 0));
        CHECK.bad("what -1", () -> x.span(1, 1, 1, -1, 0));
        CHECK.bad("what 4", () -> x.span(1, 1, 1, 4, 0));
        CHECK.bad("life 1", () -> x.span(1, 1, 1, 0, 1));
        CHECK.bad("life -1", () -> x.span(1, 1, 1, 3, -1));
        CHECK.due("status(0)", x.status(0), 0);
        CHECK.due("status(1)", x.status(1), 8);
    }

    private static void images() {
        CHECK.part("promises 45 and 46");
        LifeDrawer x = NowTest.three();
        CHECK.due("image", x.image(), 1);
        Check.work(x, "week;");
        CHECK.due("image", x.image(), 2);
        Check.work(x, "week;");
        CHECK.due("image", x.image(), 3);
        Check.work(x, "week;");
        CHECK.due("image", x.image(), -1);
        CHECK.due("images", x.count(0), 3);
        for (int i = 2; i >= 0; i--) {
            CHECK.due("restore", x.restore(), i);
            CHECK.due("week", x.told(1), i);
            CHECK.due("works", x.count(2), i);
        }
        CHECK.due("restore", x.restore(), -1);
        CHECK.due("image", x.image(), 1);
        for (int i = 1; i <= 16; i++) Check.work(x, "week;");
        x.image();
        while (x.undo() > 0) {
            CHECK.due("week", x.told(1), x.count(2));
        }
        Check.work(x, "die 0;die 1;die 2;");
        x.restore();
        for (int i = 15; i >= 0; i--) {
            CHECK.due("undo", x.undo(), i);
            CHECK.due("week", x.told(1), i);
        }
    }

    private static void imageKeeps() {
        CHECK.part("promises 45 and 46, what is kept");
        LifeDrawer x = NowTest.three();
        Check.work(x, "write 0;die 2;");
        Check.work(x, "week;die 1;");
        x.image();
        x.undo();
        x.undo();
        Check.work(x, "again 20 [week;];die 0;die 0;");
        Check.law(x, "7");
        Check.page(x, "0 1;");
        Check.feed(x, "xx");
        CHECK.noSuch("a refusal", () -> x.facts(9));
        CHECK.due("refused", x.told(8), 1);
        Check.drawer(x, "x");
        Check.feed(x, "xx");
        CHECK.fraction("best asked ahead", x.best(1, 0), x.best(1, 1), 105, 128);
        CHECK.due("restore", x.restore(), 0);
        CHECK.fraction("best asked behind", x.best(1, 0), x.best(1, 1), 105, 1024);
        int[] told = {3, 1, 6, 1, 1, 1, 1, 1, 0};
        for (int i = 0; i < told.length; i++) CHECK.due("told(" + i + ")", x.told(i), told[i]);
        CHECK.fraction("lost", x.loss(0), x.loss(1), 365, 8);
        CHECK.due("the law is not in it", x.would(1, 1, 1, 0, 0), 7);
        CHECK.due("the fault is not in it", x.fault(), 0);
        CHECK.due("the tape is not in it", x.count(1), 20);
        CHECK.due("status is not in it", x.status(0), 1);
        CHECK.due("works can be undone", x.undo(), 1);
        CHECK.due("alive", x.told(3), 2);
        CHECK.due("the piece", x.life(0, 6), 0);
        CHECK.due("works can be undone", x.undo(), 0);
        CHECK.due("alive", x.told(3), 3);
    }

    private static void status() {
        CHECK.part("promise 47");
        LifeDrawer x = NowTest.three();
        CHECK.due("status(0)", x.status(0), 0);
        CHECK.due("status(1)", x.status(1), 0);
        CHECK.noSuch("facts", () -> x.facts(-1));
        CHECK.noSuch("life", () -> x.life(9, 99));
        CHECK.bad("risk", () -> x.risk(5));
        CHECK.due("status(0)", x.status(0), 2);
        CHECK.due("status(1)", x.status(1), 1);
        CHECK.due("status(2)", x.status(2), -1);
        CHECK.due("status(-1)", x.status(-1), -1);
        Check.drawer(x, "half 9;");
        Check.drawer(x, "half 2;");
        CHECK.due("a fault is no refusal, a drawer keeps them", x.status(1), 1);
        CHECK.due("a drawer keeps them", x.status(0), 2);
    }

    private static void count() {
        CHECK.part("promise 48");
        LifeDrawer x = NowTest.three();
        x.image();
        Check.feed(x, "x".repeat(25));
        CHECK.due("images", x.count(0), 1);
        CHECK.due("bytes", x.count(1), 40);
        CHECK.due("works", x.count(2), 0);
        x.law(1);
        CHECK.due("bytes", x.count(1), 0);
        Check.work(x, "week;");
        CHECK.due("works", x.count(2), 1);
        CHECK.due("count(3)", x.count(3), -1);
        CHECK.due("count(-1)", x.count(-1), -1);
        CHECK.due("nothing was refused", x.status(1), 0);
    }
}
