/** Promises 31 to 42: facts, pages, and what comes if nothing is done. */
public final class FactsTest {
    private static final Check CHECK = new Check();

    public static void main(String[] args) {
        apart();
        twins();
        written();
        whose();
        ahead();
        lives();
        oldest();
        chain();
        due();
        news();
        expects();
        worst();
        CHECK.close("FactsTest");
    }

    private static LifeDrawer late(String drawer, int week) {
        LifeDrawer x = Check.with(drawer);
        for (int i = 0; i < week / 50; i++) Check.work(x, "again 10 [again 5 [week;];];");
        Check.work(x, "week;".repeat(week % 50 % 25));
        if (week % 50 >= 25) Check.work(x, "again 5 [again 5 [week;];];");
        CHECK.due("week", x.told(1), week);
        return x;
    }

    private static LifeDrawer four() {
        return Check.with("life 1 1 1 1;".repeat(4) + "fact 0 0 1;fact 1 1 1;fact 2 0 1;fact 2 1 1;");
    }

    private static void apartOf(LifeDrawer x, int lives, int many, int which) {
        CHECK.due("apart(" + lives + ", 0)", x.apart(lives, 0), many);
        CHECK.due("apart(" + lives + ", 1)", x.apart(lives, 1), which);
    }

    private static void apart() {
        CHECK.part("promise 31");
        LifeDrawer x = four();
        apartOf(x, 0, 0, 0);
        apartOf(x, 4, 0, 0);
        apartOf(x, 3, -1, -1);
        Check.work(x, "week;die 0;");
        apartOf(x, 15, 2, 3);
        apartOf(x, 3, 1, 1);
        apartOf(x, 9, 1, 1);
        apartOf(x, 10, 1, 2);
        apartOf(x, 6, 1, 1);
        LifeDrawer y = Check.with("life 1 1 1 1;".repeat(3) + "fact 0 0 1;fact 0 5 1;fact 1 1 1;fact 1 5 1;fact 2 2 1;fact 2 4 1;");
        Check.work(y, "week;");
        apartOf(y, 7, 2, 3);
        apartOf(y, 5, 1, 1);
        LifeDrawer z = Check.with("life 1 1 1 1;".repeat(8) + "fact 0 3 1;fact 1 4 1;fact 2 3 1;fact 2 4 1;fact 3 5 1;"
            + "fact 4 5 1;fact 4 3 1;fact 5 5 1;fact 5 4 1;fact 6 5 1;fact 6 4 1;fact 6 3 1;");
        Check.work(z, "week;");
        apartOf(z, 255, 3, 56);
        CHECK.bad("apart(16, 0)", () -> x.apart(16, 0));
        CHECK.bad("apart(-1, 0)", () -> x.apart(-1, 0));
        CHECK.bad("apart(1, 2)", () -> x.apart(1, 2));
        CHECK.bad("apart(1, -1)", () -> x.apart(1, -1));
        CHECK.due("status(1)", x.status(1), 4);
    }

    private static void twins() {
        CHECK.part("promise 32");
        LifeDrawer x = Check.with("life 1 1 1 1;".repeat(4) + "fact 0 0 1;fact 2 0 2;fact 3 1 1;fact 1 5 2;");
        CHECK.due("at first", x.twins(), 1);
        Check.work(x, "week;die 1;");
        CHECK.due("dead or not", x.twins(), 12);
        Check.work(x, "week;");
        CHECK.due("two weeks on", x.twins(), 2);
        CHECK.due("one alone", Check.with("life 1 1 1 1;").twins(), -1);
        LifeDrawer y = four();
        Check.work(y, "week;");
        CHECK.due("none", y.twins(), -1);
    }

    private static void written() {
        CHECK.part("promise 33");
        LifeDrawer x = Check.with("life 1 1 1 1;life 1 1 1 1;life 1 1 1 1;fact 0 0 3;fact 0 0 5;fact 1 0 60;fact 2 0 4;fact 2 0 4;fact 2 1 2;");
        CHECK.due("without a page", x.written(0), (1L << 61) - 1);
        Check.page(x, "0 1;");
        CHECK.due("weeks 3 and 4", x.written(0), 24);
        CHECK.due("week 60", x.written(1), 1L << 60);
        CHECK.due("twice is none", x.written(2), 0);
        Check.page(x, "0 0;1 1;");
        CHECK.due("both lines", x.written(2), (1L << 61) - 4);
        CHECK.due("not both", x.written(0), 0);
        Check.page(x, "0 0;");
        CHECK.due("up to week 59", x.written(1), (1L << 60) - 1);
        Check.work(x, "week;week;die 1;");
        CHECK.due("whichever week it is", x.written(1), (1L << 60) - 1);
        CHECK.noSuch("written(3)", () -> x.written(3));
        CHECK.noSuch("written(-1)", () -> x.written(-1));
        CHECK.due("status(0)", x.status(0), 2);
    }

    private static void whose() {
        CHECK.part("promise 34");
        LifeDrawer x = Check.with("life 1 1 1 1;life 1 1 1 1;life 1 1 1 1;fact 0 0 3;fact 2 0 60;fact 1 1 4;");
        CHECK.due("without a page", x.whose(), 7);
        Check.page(x, "0 1;");
        CHECK.due("whose", x.whose(), 5);
        Check.page(x, "1 1;");
        CHECK.due("whose", x.whose(), 2);
        Check.page(x, "1 1;0 1;");
        CHECK.due("whose", x.whose(), 0);
    }

    private static void ahead() {
        CHECK.part("promise 35");
        LifeDrawer x = NowTest.three();
        CHECK.fraction("now", x.ahead(0, 0), x.ahead(0, 1), 125, 32);
        CHECK.fraction("in 2 weeks", x.ahead(2, 0), x.ahead(2, 1), 35, 8);
        CHECK.fraction("in 60 weeks", x.ahead(60, 0), x.ahead(60, 1), 145, 16);
        Check.law(x, "facts * 10 + years - 80");
        // two facts have changed by week 5, and a year has passed by week 52
        CHECK.fraction("in 5 weeks", x.ahead(5, 0), x.ahead(5, 1), 125, 32);
        CHECK.fraction("in 52 weeks", x.ahead(52, 0), x.ahead(52, 1), 515, 128);
        Check.work(x, "die 0;");
        CHECK.fraction("of those who are alive", x.ahead(3, 0), x.ahead(3, 1), 75, 64);
        CHECK.bad("ahead(-1, 0)", () -> x.ahead(-1, 0));
        CHECK.bad("ahead(61, 0)", () -> x.ahead(61, 0));
        CHECK.bad("ahead(0, 2)", () -> x.ahead(0, 2));
        CHECK.bad("ahead(0, -1)", () -> x.ahead(0, -1));
        CHECK.due("status(1)", x.status(1), 4);
        LifeDrawer y = late("life 1 64 1 1;has 0 0;", 190);
        CHECK.fraction("to week 200", y.ahead(10, 0), y.ahead(10, 1), 3, 1);
        CHECK.bad("beyond", () -> y.ahead(11, 0));
    }

    private static void lives() {
        CHECK.part("promise 36");
        LifeDrawer x = NowTest.three();
        CHECK.fraction("now", x.lives(1, 0, 0), x.lives(1, 0, 1), 1, 1);
        CHECK.fraction("in 2 weeks", x.lives(1, 2, 0), x.lives(1, 2, 1), 49, 64);
        CHECK.fraction("in 8 weeks", x.lives(1, 8, 0), x.lives(1, 8, 1), 5764801, 16777216);
        CHECK.fraction("who can't die", x.lives(2, 8, 0), x.lives(2, 8, 1), 1, 1);
        LifeDrawer y = Check.with("life 1 64 1 1;life 1 1 1 1;life 1 63 1 1;");
        CHECK.fraction("who must", y.lives(0, 1, 0), y.lives(0, 1, 1), 0, 1);
        CHECK.fraction("who must, now", y.lives(0, 0, 0), y.lives(0, 0, 1), 1, 1);
        CHECK.fraction("63 to the 8th", y.lives(1, 8, 0), y.lives(1, 8, 1), 248155780267521L, 281474976710656L);
        CHECK.fraction("1 of 64 to the 8th", y.lives(2, 8, 0), y.lives(2, 8, 1), 1, 281474976710656L);
        Check.work(x, "die 2;");
        CHECK.fraction("dead", x.lives(2, 0, 0), x.lives(2, 0, 1), 0, 1);
        CHECK.noSuch("lives(3, 0, 0)", () -> x.lives(3, 0, 0));
        CHECK.noSuch("lives(-1, 9, 9)", () -> x.lives(-1, 9, 9));
        CHECK.bad("lives(0, 9, 0)", () -> x.lives(0, 9, 0));
        CHECK.bad("lives(0, -1, 0)", () -> x.lives(0, -1, 0));
        CHECK.bad("lives(2, 0, 2)", () -> x.lives(2, 0, 2));
        CHECK.bad("lives(0, 0, -1)", () -> x.lives(0, 0, -1));
        CHECK.due("status(0)", x.status(0), 2);
        CHECK.due("status(1)", x.status(1), 4);
    }

    private static void oldest() {
        CHECK.part("promise 37");
        LifeDrawer x = Check.with("life 1 1 1 1;".repeat(4) + "has 1 3;has 2 9;has 3 9;");
        CHECK.due("of these the first", x.oldest(), 2);
        Check.work(x, "renew 2;");
        CHECK.due("then", x.oldest(), 3);
        Check.work(x, "die 3;");
        CHECK.due("then", x.oldest(), 1);
        Check.work(x, "die 1;die 2;");
        CHECK.due("none", x.oldest(), -1);
        CHECK.due("0 weeks old", Check.with("life 1 1 1 1;has 0 0;").oldest(), 0);
        CHECK.due("no lives", new LifeDrawer().oldest(), -1);
    }

    private static void chainOf(LifeDrawer x, int life, int many, int last) {
        CHECK.due("chain(" + life + ", 0)", x.chain(life, 0), many);
        CHECK.due("chain(" + life + ", 1)", x.chain(life, 1), last);
    }

    private static void chain() {
        CHECK.part("promise 38");
        LifeDrawer x = Check.with("life 1 1 1 1;".repeat(8) + "by 0 1;by 1 2;by 2 0;by 3 0;by 4 5;");
        chainOf(x, 0, 3, 2);
        chainOf(x, 2, 3, 1);
        chainOf(x, 3, 4, 2);
        chainOf(x, 4, 2, 5);
        chainOf(x, 5, 1, 5);
        Check.work(x, "die 1;die 5;");
        chainOf(x, 3, 4, 2);
        LifeDrawer all = Check.with("life 1 1 1 1;".repeat(8) + "by 0 1;by 1 2;by 2 3;by 3 4;by 4 5;by 5 6;by 6 7;by 7 0;");
        chainOf(all, 0, 8, 7);
        CHECK.noSuch("chain(8, 0)", () -> x.chain(8, 0));
        CHECK.noSuch("chain(-1, 5)", () -> x.chain(-1, 5));
        CHECK.bad("chain(0, 2)", () -> x.chain(0, 2));
        CHECK.bad("chain(0, -1)", () -> x.chain(0, -1));
        CHECK.due("status(0)", x.status(0), 2);
        CHECK.due("status(1)", x.status(1), 2);
    }

    private static void due() {
        CHECK.part("promise 39");
        LifeDrawer x = NowTest.three();
        CHECK.due("due(1, 0)", x.due(1, 0), 0);
        CHECK.due("due(1, 20)", x.due(1, 20), 0);
        CHECK.due("due(1, 21)", x.due(1, 21), 1);
        CHECK.due("due(1, 64)", x.due(1, 64), 22);
        CHECK.due("due(1, 65)", x.due(1, 65), -1);
        CHECK.due("no piece", x.due(0, 0), -1);
        Check.law(x, "facts * 10");
        CHECK.due("the first change", x.due(1, 10), 3);
        CHECK.due("the second", x.due(1, 20), 5);
        CHECK.due("no third", x.due(1, 21), -1);
        Check.law(x, "years - 79");
        CHECK.due("a year more", x.due(1, 2), 52);
        Check.law(x, "age / 4");
        CHECK.due("within 60", x.due(1, 17), 58);
        CHECK.due("beyond 60", x.due(1, 18), -1);
        Check.law(x, "age - 10");
        CHECK.due("at 60", x.due(1, 60), 60);
        CHECK.due("at 61", x.due(1, 61), -1);
        LifeDrawer y = late("life 1 1 1 1;has 0 0;", 195);
        Check.work(y, "renew 0;");
        Check.law(y, "age");
        CHECK.due("to week 200", y.due(0, 5), 5);
        CHECK.due("not beyond", y.due(0, 6), -1);
        CHECK.noSuch("due(3, 0)", () -> x.due(3, 0));
        CHECK.noSuch("due(-1, 99)", () -> x.due(-1, 99));
        CHECK.bad("due(0, 66)", () -> x.due(0, 66));
        CHECK.bad("due(1, -1)", () -> x.due(1, -1));
        CHECK.due("status(0)", x.status(0), 2);
        CHECK.due("status(1)", x.status(1), 2);
    }

    private static void news() {
        CHECK.part("promise 40");
        LifeDrawer x = Check.with("life 1 1 1 1;life 1 1 1 1;fact 0 0 9;fact 0 1 4;fact 0 1 4;fact 0 2 1;");
        CHECK.due("news", x.news(0), 1);
        Check.work(x, "week;");
        CHECK.due("from the next one on, two that are one", x.news(0), 4);
        Check.work(x, "week;week;week;die 0;");
        CHECK.due("the last", x.news(0), 9);
        Check.work(x, "again 5 [week;];");
        CHECK.due("none", x.news(0), -1);
        CHECK.due("none told", x.news(1), -1);
        CHECK.noSuch("news(2)", () -> x.news(2));
        CHECK.noSuch("news(-1)", () -> x.news(-1));
        CHECK.due("status(0)", x.status(0), 2);
    }

    private static void expects() {
        CHECK.part("promise 41");
        LifeDrawer x = NowTest.three();
        CHECK.fraction("none", x.expects(0, 0, 0), x.expects(0, 0, 1), 0, 1);
        CHECK.fraction("this week", x.expects(0, 1, 0), x.expects(0, 1, 1), 25, 16);
        CHECK.fraction("two weeks", x.expects(0, 2, 0), x.expects(0, 2, 1), 1575, 512);
        CHECK.fraction("an older piece", x.expects(1, 2, 0), x.expects(1, 2, 1), 2355, 512);
        CHECK.fraction("who can't die", x.expects(2, 7, 0), x.expects(2, 7, 1), 0, 1);
        LifeDrawer y = Check.with("life 1 64 99 1;life 1 1 99 1;lack 9;");
        CHECK.fraction("who must", y.expects(0, 7, 0), y.expects(0, 7, 1), 891, 1);
        // 891 times 64 to the 7th less 63 to the 7th, by 64 to the 7th
        CHECK.fraction("seven weeks", y.expects(1, 7, 0), y.expects(1, 7, 1), 891L * (4398046511104L - 3938980639167L), 4398046511104L);
        Check.work(y, "die 0;");
        CHECK.fraction("dead", y.expects(0, 3, 0), y.expects(0, 3, 1), 0, 1);
        LifeDrawer z = late("life 1 64 1 1;life 1 32 1 1;has 1 0;", 200);
        Check.law(z, "(age - 200) * 32");
        CHECK.fraction("beyond week 200", z.expects(1, 2, 0), z.expects(1, 2, 1), 3, 8);
        CHECK.noSuch("expects(3, 0, 0)", () -> x.expects(3, 0, 0));
        CHECK.noSuch("expects(-1, 9, 9)", () -> x.expects(-1, 9, 9));
        CHECK.bad("expects(0, 8, 0)", () -> x.expects(0, 8, 0));
        CHECK.bad("expects(0, -1, 0)", () -> x.expects(0, -1, 0));
        CHECK.bad("expects(0, 0, 2)", () -> x.expects(0, 0, 2));
        CHECK.bad("expects(0, 0, -1)", () -> x.expects(0, 0, -1));
        CHECK.due("status(0)", x.status(0), 2);
        CHECK.due("status(1)", x.status(1), 4);
    }

    private static void worst() {
        CHECK.part("promise 42");
        LifeDrawer x = NowTest.three();
        CHECK.due("worst", x.worst(), 22);
        Check.law(x, "64 - age");
        CHECK.due("now", x.worst(), 0);
        Check.law(x, "facts");
        CHECK.due("of these the first", x.worst(), 5);
        Check.law(x, "age - 10");
        CHECK.due("the last that is asked", x.worst(), 60);
        Check.law(x, "least[age, 150 - age - age]");
        CHECK.due("in the midst", x.worst(), 40);
        Check.work(x, "die 1;");
        CHECK.due("always alike", x.worst(), 0);
        LifeDrawer y = late("life 1 64 1 1;has 0 0;", 195);
        Check.law(y, "age - 190");
        CHECK.due("to week 200", y.worst(), 5);
    }
}
