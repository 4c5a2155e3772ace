/** Promises 9 to 21: what is so now, and what deaths cost on the mean. */
public final class NowTest {
    private static final Check CHECK = new Check();

    public static void main(String[] args) {
        told();
        life();
        facts();
        wrong();
        would();
        loss();
        cost();
        risk();
        saves();
        first();
        lackingAndSigned();
        stale();
        CHECK.close("NowTest");
    }

    static LifeDrawer three() {
        return Check.with("life 60 2 10 4;life 80 8 20 2;life 30 0 5 3;has 1 10;by 1 0;fact 1 0 3;fact 1 2 5;fact 0 1 2;"
            + "hours 6;lack 5;wrong 3;half 2;");
    }

    private static void toldAll(LifeDrawer x, int... want) {
        for (int i = 0; i < want.length; i++) CHECK.due("told(" + i + ")", x.told(i), want[i]);
    }

    private static void told() {
        CHECK.part("promise 9");
        LifeDrawer x = three();
        toldAll(x, 3, 0, 6, 3, 1, 0, 0, 0, 0);
        Check.page(x, "1 1;2 0;");
        Check.work(x, "week;week;write 0;die 1;die 2;die 2;renew 2;");
        toldAll(x, 3, 2, 0, 1, 1, 1, 1, 2, 2);
        x.image();
        x.restore();
        toldAll(x, 3, 2, 0, 1, 1, 1, 1, 2, 0);
        CHECK.bad("told(-1)", () -> x.told(-1));
        CHECK.bad("told(9)", () -> x.told(9));
        CHECK.due("status(1)", x.status(1), 2);
    }

    private static void life() {
        CHECK.part("promise 10");
        LifeDrawer x = three();
        int[][] want = {{60, 2, 10, 4, 2, 0, -1, -1}, {80, 8, 20, 2, 1, 0, 10, 0}, {30, 0, 5, 3, 1, 0, -1, -1}};
        for (int i = 0; i < 3; i++) for (int j = 0; j < 8; j++) CHECK.due("life(" + i + ", " + j + ")", x.life(i, j), want[i][j]);
        Check.work(x, "die 1;again 17 [again 3 [week;];];");
        CHECK.due("years in week 51", x.life(0, 0), 60);
        Check.work(x, "week;write 2;week;week;");
        CHECK.due("years in week 54", x.life(0, 0), 61);
        CHECK.due("years of a dead one", x.life(1, 0), 81);
        CHECK.due("dead", x.life(1, 5), 1);
        CHECK.due("the piece is gone", x.life(1, 6), -1);
        CHECK.due("weeks old", x.life(2, 6), 2);
        CHECK.due("half 4", Check.with("life 1 1 1 9;half 4;").life(0, 4), 2);
        CHECK.due("half 4", Check.with("life 1 1 1 3;half 4;").life(0, 4), 1);
        CHECK.due("half 1", Check.with("life 1 1 1 9;half 1;").life(0, 4), 9);
        CHECK.noSuch("life(3, 0)", () -> x.life(3, 0));
        CHECK.noSuch("life(-1, 0)", () -> x.life(-1, 0));
        CHECK.noSuch("no life, ahead of others", () -> x.life(3, 9));
        CHECK.bad("life(0, 8)", () -> x.life(0, 8));
        CHECK.bad("life(0, -1)", () -> x.life(0, -1));
        CHECK.due("status(0)", x.status(0), 3);
        CHECK.due("status(1)", x.status(1), 2);
    }

    private static void facts() {
        CHECK.part("promise 11");
        LifeDrawer x = three();
        CHECK.due("facts(1)", x.facts(1), 0);
        Check.work(x, "week;week;");
        CHECK.due("facts(0)", x.facts(0), 2);
        CHECK.due("facts(1)", x.facts(1), 0);
        Check.work(x, "week;die 1;");
        CHECK.due("facts(1)", x.facts(1), 1);
        Check.work(x, "week;week;");
        CHECK.due("facts of a dead one go on", x.facts(1), 5);
        LifeDrawer y = Check.with("life 1 1 1 1;fact 0 5 1;fact 0 5 1;fact 0 4 1;fact 0 4 2;fact 0 3 1;");
        Check.work(y, "week;");
        CHECK.due("twice is back", y.facts(0), 24);
        Check.work(y, "week;");
        CHECK.due("back a week later", y.facts(0), 8);
        CHECK.noSuch("facts(3)", () -> x.facts(3));
        CHECK.noSuch("facts(-1)", () -> x.facts(-1));
        CHECK.due("status(0)", x.status(0), 2);
    }

    private static void wrong() {
        CHECK.part("promise 12");
        LifeDrawer x = three();
        CHECK.due("wrong(1)", x.wrong(1), 20);
        CHECK.due("wrong(0)", x.wrong(0), -1);
        Check.law(x, "dead * 30 + facts");
        Check.work(x, "week;week;die 0;");
        CHECK.due("by one who is dead", x.wrong(1), 30);
        CHECK.due("of a dead one", x.wrong(0), -1);
        Check.work(x, "week;");
        CHECK.due("a fact has changed", x.wrong(1), 31);
        Check.work(x, "renew 1;");
        CHECK.due("renewed in the week of the change", x.wrong(1), 30);
        Check.work(x, "week;week;");
        CHECK.due("another has changed", x.wrong(1), 31);
        LifeDrawer y = Check.with("life 1 1 1 1;has 0 5;fact 0 0 1;fact 0 0 1;fact 0 1 2;");
        Check.law(y, "facts");
        Check.work(y, "week;");
        CHECK.due("each as often as told", y.wrong(0), 2);
        Check.work(y, "week;");
        CHECK.due("and the next", y.wrong(0), 3);
        Check.law(y, "worth + years");
        CHECK.due("worth and years", y.wrong(0), 2);
        Check.law(y, "99");
        CHECK.due("64 at most", y.wrong(0), 64);
        Check.law(y, "0 - 1");
        CHECK.due("0 at least", y.wrong(0), 0);
        CHECK.noSuch("wrong(1)", () -> y.wrong(1));
        CHECK.noSuch("wrong(-1)", () -> y.wrong(-1));
        CHECK.due("status(0)", y.status(0), 2);
    }

    private static void would() {
        CHECK.part("promise 13");
        LifeDrawer x = new LifeDrawer();
        CHECK.due("without a law", x.would(5, 0, 1, 0, 0), 10);
        CHECK.due("64 at most", x.would(200, 200, 99, 1, 24), 64);
        Check.law(x, "age * 3 + dead * 10 + facts * 7 + years / 40 - worth / 20");
        CHECK.due("would", x.would(2, 40, 20, 1, 3), 37);
        CHECK.due("would", x.would(0, 0, 99, 0, 0), 0);
        int[][] bad = {{-1, 0, 1, 0, 0}, {201, 0, 1, 0, 0}, {0, -1, 1, 0, 0}, {0, 201, 1, 0, 0}, {0, 0, 0, 0, 0}, {0, 0, 100, 0, 0},
            {0, 0, 1, -1, 0}, {0, 0, 1, 2, 0}, {0, 0, 1, 0, -1}, {0, 0, 1, 0, 25}};
        for (int[] a : bad) CHECK.bad("would " + java.util.Arrays.toString(a), () -> x.would(a[0], a[1], a[2], a[3], a[4]));
        CHECK.due("status(1)", x.status(1), 10);
    }

    private static void loss() {
        CHECK.part("promise 14");
        LifeDrawer x = three();
        CHECK.fraction("at first", x.loss(0), x.loss(1), 0, 1);
        Check.work(x, "die 1;");
        CHECK.fraction("3 times 20 times 20 of 64", x.loss(0), x.loss(1), 75, 4);
        Check.work(x, "die 0;");
        CHECK.fraction("and 5 times 10", x.loss(0), x.loss(1), 275, 4);
        Check.law(x, "0");
        CHECK.fraction("what was lost stays", x.loss(0), x.loss(1), 275, 4);
        CHECK.bad("loss(2)", () -> x.loss(2));
        CHECK.bad("loss(-1)", () -> x.loss(-1));
        CHECK.due("status(1)", x.status(1), 2);
    }

    private static void cost() {
        CHECK.part("promise 15");
        LifeDrawer x = three();
        CHECK.fraction("lacking", x.cost(0, 0), x.cost(0, 1), 50, 1);
        CHECK.fraction("in the drawer", x.cost(1, 0), x.cost(1, 1), 75, 4);
        CHECK.fraction("of one who can't die", x.cost(2, 0), x.cost(2, 1), 25, 1);
        CHECK.due("asked, nothing stays changed", x.told(3), 3);
        Check.work(x, "die 0;");
        CHECK.fraction("of a dead one", x.cost(0, 0), x.cost(0, 1), 0, 1);
        Check.law(x, "dead * 7");
        CHECK.fraction("by a dead one", x.cost(1, 0), x.cost(1, 1), 105, 16);
        LifeDrawer week = Check.with("life 1 64 64 1;has 0 3;fact 0 0 1;wrong 1;");
        Check.law(week, "facts");
        CHECK.fraction("facts that change in the next week", week.cost(0, 0), week.cost(0, 1), 0, 1);
        CHECK.due("nor are they stale", week.stale(1), 0);
        CHECK.fraction("nor saved", week.saves(0, 0), week.saves(0, 1), 0, 1);
        Check.work(week, "die 0;");
        CHECK.fraction("nor lost", week.loss(0), week.loss(1), 0, 1);
        CHECK.noSuch("cost(3, 0)", () -> x.cost(3, 0));
        CHECK.noSuch("cost(-1, 5)", () -> x.cost(-1, 5));
        CHECK.bad("cost(0, 2)", () -> x.cost(0, 2));
        CHECK.bad("cost(1, -1)", () -> x.cost(1, -1));
        CHECK.due("status(0)", x.status(0), 2);
        CHECK.due("status(1)", x.status(1), 2);
    }

    private static void risk() {
        CHECK.part("promise 16");
        LifeDrawer x = three();
        CHECK.fraction("risk", x.risk(0), x.risk(1), 125, 32);
        Check.work(x, "die 0;");
        CHECK.fraction("of those who are alive", x.risk(0), x.risk(1), 75, 32);
        Check.work(x, "die 1;");
        CHECK.fraction("of none who can die", x.risk(0), x.risk(1), 0, 1);
        CHECK.bad("risk(2)", () -> x.risk(2));
        CHECK.bad("risk(-1)", () -> x.risk(-1));
        CHECK.due("status(1)", x.status(1), 2);
    }

    private static void saves() {
        CHECK.part("promise 17");
        LifeDrawer x = three();
        CHECK.fraction("written", x.saves(0, 0), x.saves(0, 1), 25, 64);
        CHECK.fraction("renewed", x.saves(1, 0), x.saves(1, 1), 75, 32);
        CHECK.fraction("of one who can't die", x.saves(2, 0), x.saves(2, 1), 0, 1);
        Check.work(x, "write 0;die 2;");
        CHECK.due("no hours are left", x.told(2), 0);
        CHECK.fraction("hours left not asked", x.saves(1, 0), x.saves(1, 1), 75, 32);
        CHECK.fraction("0 weeks old", x.saves(0, 0), x.saves(0, 1), 0, 1);
        CHECK.fraction("dead", x.saves(2, 0), x.saves(2, 1), 0, 1);
        Check.law(x, "40 - age");
        CHECK.fraction("0 at least", x.saves(1, 0), x.saves(1, 1), 0, 1);
        Check.law(x, "age + 10");
        // 8 of 64 of 3 times 20 times 10 of 64, less for a new piece that is wrong too
        CHECK.fraction("a new one is wrong too", x.saves(1, 0), x.saves(1, 1), 75, 64);
        LifeDrawer y = Check.with("life 1 8 20 9;has 0 3;half 3;");
        CHECK.fraction("by three hours", y.saves(0, 0), y.saves(0, 1), 15, 64);
        CHECK.noSuch("saves(1, 0)", () -> y.saves(1, 0));
        CHECK.noSuch("saves(-1, 2)", () -> y.saves(-1, 2));
        CHECK.bad("saves(0, 2)", () -> y.saves(0, 2));
        CHECK.bad("saves(0, -1)", () -> y.saves(0, -1));
        CHECK.due("status(0)", y.status(0), 2);
        CHECK.due("status(1)", y.status(1), 2);
    }

    private static void first() {
        CHECK.part("promise 18");
        LifeDrawer x = three();
        CHECK.due("first", x.first(), 1);
        Check.work(x, "renew 1;");
        CHECK.due("then", x.first(), 0);
        Check.work(x, "write 0;");
        CHECK.due("above 0 alone", x.first(), -1);
        CHECK.due("of alike ones the least", Check.with("life 1 0 9 1;life 1 8 10 2;life 1 8 10 2;").first(), 1);
        CHECK.due("by the hour", Check.with("life 1 8 30 9;life 1 8 10 2;").first(), 1);
        CHECK.due("alike by the hour", Check.with("life 1 8 30 6;life 1 8 10 2;").first(), 0);
        CHECK.due("hours left not asked", Check.with("life 1 8 30 9;hours 1;").first(), 0);
    }

    private static void lackingAndSigned() {
        CHECK.part("promises 19 and 20");
        LifeDrawer x = Check.with("life 1 1 1 1;life 1 1 1 1;life 1 1 1 1;life 1 1 1 1;has 1 0;has 2 4;by 1 0;by 2 3;by 3 0;");
        CHECK.due("lacking", x.lacking(), 9);
        CHECK.due("signed", x.signed(), 0);
        Check.work(x, "die 0;");
        CHECK.due("lacking", x.lacking(), 8);
        CHECK.due("signed", x.signed(), 2);
        Check.work(x, "write 3;week;renew 1;");
        CHECK.due("lacking", x.lacking(), 0);
        CHECK.due("who writes whom stays", x.signed(), 10);
        Check.work(x, "die 1;die 3;");
        CHECK.due("signed", x.signed(), 4);
        CHECK.due("the dead lack nothing", x.lacking(), 0);
        x.undo();
        x.undo();
        x.undo();
        CHECK.due("lacking", x.lacking(), 9);
        CHECK.due("signed", x.signed(), 0);
    }

    private static void stale() {
        CHECK.part("promise 21");
        LifeDrawer x = Check.with("life 1 1 1 1;life 1 1 1 1;life 1 1 1 1;has 0 10;has 2 40;");
        CHECK.due("stale(0)", x.stale(0), 5);
        CHECK.due("stale(20)", x.stale(20), 5);
        CHECK.due("stale(21)", x.stale(21), 4);
        CHECK.due("stale(64)", x.stale(64), 4);
        CHECK.due("stale(65)", x.stale(65), 0);
        Check.work(x, "die 2;");
        CHECK.due("of a dead one there is none", x.stale(0), 1);
        CHECK.bad("stale(66)", () -> x.stale(66));
        CHECK.bad("stale(-1)", () -> x.stale(-1));
        CHECK.due("status(1)", x.status(1), 2);
    }
}
