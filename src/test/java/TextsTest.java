/** Promises 1 to 8: a new object, the tape, the four texts, their faults, undo. */
public final class TextsTest {
    private static final String LIFE = "life 1 1 1 1;";
    private static final Check CHECK = new Check();

    public static void main(String[] args) {
        newObject();
        feed();
        drawerBounds();
        drawerFaults();
        drawerLimits();
        drawerBeginsAnew();
        drawerRefusals();
        lawValues();
        lawFaults();
        lawLimits();
        workSteps();
        workFaults();
        workLimits();
        page();
        fault();
        undo();
        CHECK.close("TextsTest");
    }

    private static void newObject() {
        CHECK.part("promise 1");
        LifeDrawer x = new LifeDrawer();
        int[] told = {0, 0, 8, 0, 0, 0, 0, 0, 0};
        for (int i = 0; i < told.length; i++) CHECK.due("told(" + i + ")", x.told(i), told[i]);
        for (int i = 0; i < 3; i++) CHECK.due("count(" + i + ")", x.count(i), 0);
        for (int i = 0; i < 2; i++) CHECK.due("status(" + i + ")", x.status(i), 0);
        CHECK.due("fault()", x.fault(), -1);
        CHECK.due("undo()", x.undo(), -1);
        CHECK.due("restore()", x.restore(), -1);
        CHECK.due("first()", x.first(), -1);
        CHECK.due("worst()", x.worst(), 0);
        CHECK.due("law without", x.would(5, 1, 1, 0, 0), 10);
        CHECK.fraction("risk", x.risk(0), x.risk(1), 0, 1);
        CHECK.fraction("best", x.best(3, 0), x.best(3, 1), 0, 1);
        CHECK.due("NONE", LifeDrawer.NONE, -1);
    }

    private static void feed() {
        CHECK.part("promise 2");
        LifeDrawer x = new LifeDrawer();
        for (int i = 1; i <= 30; i++) CHECK.due("feed " + i, x.feed(0, 0, 0, 0, 0), 20 * i);
        CHECK.due("feed beyond 600", x.feed(0, 0, 0, 0, 0), -1);
        CHECK.due("bytes", x.count(1), 600);
        CHECK.due("a drawer of zeros", x.drawer(600), -9);
        // "life 1 2 3 4; half 3" with the highest byte of each number first
        CHECK.due("feed", x.feed(0x6c696665, 0x20312032, 0x20332034, 0x3b206861, 0x6c662033), 20);
        CHECK.due("drawer(13)", x.drawer(13), 1);
        CHECK.due("worth", x.life(0, 2), 3);
        CHECK.due("tape", x.count(1), 0);
        CHECK.due("the rest is gone", x.feed(1, 2, 3, 4, 5), 20);
    }

    private static void drawerOk(String text, int lives) {
        LifeDrawer x = new LifeDrawer();
        CHECK.due("drawer " + text, Check.drawer(x, text), lives);
        CHECK.due("fault of " + text, x.fault(), -1);
    }

    private static void drawerFault(String text, int kind, int at) {
        LifeDrawer x = new LifeDrawer();
        CHECK.due("drawer " + text, Check.drawer(x, text), kind - 10);
        CHECK.due("fault of " + text, x.fault(), at);
        CHECK.due("tape behind " + text, x.count(1), 0);
    }

    private static void drawerBounds() {
        CHECK.part("promise 3, bounds");
        drawerOk("", 0);
        drawerOk("   ", 0);
        drawerOk("life 0 0 1 1;", 1);
        drawerOk("life 110 64 99 9;", 1);
        drawerOk("life1 1 1 1;", 1);
        drawerOk("  life  007 1 1 1  ;  ", 1);
        drawerOk("half 00000000000000000000000000000002;", 0);
        drawerOk(LIFE + "has 0 0;has 0 40;", 1);
        drawerOk(LIFE + LIFE + "by 0 1;by 1 0;", 2);
        drawerOk(LIFE + "fact 0 0 1;fact 0 5 60;", 1);
        drawerOk("hours 1;hours 12;lack 0;lack 9;wrong 0;wrong 9;half 1;half 4;", 0);
        LifeDrawer x = Check.with("life 20 3 4 5;hours 3;hours 7;has 0 3;has 0 9;half 4;half 3;");
        CHECK.due("the last hours", x.told(2), 7);
        CHECK.due("the last has", x.life(0, 6), 9);
        CHECK.due("the last half", x.life(0, 4), 1);
        CHECK.due("the last by", Check.with(LIFE + LIFE + LIFE + "by 0 1;by 0 2;").life(0, 7), 2);
        CHECK.due("the last lack", Check.with("life 1 1 2 1;lack 9;lack 4;").cost(0, 0), 8);
        CHECK.due("lack without", Check.with("life 1 1 2 1;").cost(0, 0), 10);
        CHECK.due("wrong without", Check.with("life 1 1 2 1;has 0 32;").cost(0, 0), 6);
        CHECK.due("the last wrong", Check.with("life 1 1 2 1;has 0 32;wrong 0;wrong 4;").cost(0, 0), 8);
        CHECK.due("half without", Check.with("life 1 1 2 9;").life(0, 4), 4);
        CHECK.due("hours without", Check.with("life 1 1 2 9;").told(2), 8);
    }

    private static void drawerFaults() {
        CHECK.part("promise 3, faults");
        drawerFault("life 111 1 1 1;", 2, 5);
        drawerFault("life 1 65 1 1;", 2, 7);
        drawerFault("life 1 1 0 1;", 2, 9);
        drawerFault("life 1 1 100 1;", 2, 9);
        drawerFault("life 1 1 1 0;", 2, 11);
        drawerFault("life 1 1 1 10;", 2, 11);
        drawerFault("life 99999999999999999999 1 1 1;", 2, 5);
        drawerFault("life 4294967297 1 1 1;", 2, 5);
        drawerFault("has 0 1;", 2, 4);
        drawerFault(LIFE + "has 1 1;", 2, 17);
        drawerFault(LIFE + "has 0 41;", 2, 19);
        drawerFault("has 0 1;" + LIFE, 2, 4);
        drawerFault(LIFE + "by 0 0;", 2, 18);
        drawerFault(LIFE + "by 1 0;", 2, 16);
        drawerFault(LIFE + "by 0 1;" + LIFE, 2, 18);
        drawerFault(LIFE + "fact 1 0 1;", 2, 18);
        drawerFault(LIFE + "fact 0 6 1;", 2, 20);
        drawerFault(LIFE + "fact 0 0 0;", 2, 22);
        drawerFault(LIFE + "fact 0 0 61;", 2, 22);
        drawerFault("hours 0;", 2, 6);
        drawerFault("hours 13;", 2, 6);
        drawerFault("lack 10;", 2, 5);
        drawerFault("wrong 10;", 2, 6);
        drawerFault("half 0;", 2, 5);
        drawerFault("half 5;", 2, 5);
        drawerFault("lives 1;", 1, 0);
        drawerFault("hal 2;", 1, 0);
        drawerFault("halfhalf 2;", 1, 0);
        drawerFault("Half 2;", 1, 0);
        drawerFault("haLf 2;", 1, 0);
        drawerFault(";", 1, 0);
        drawerFault("5;", 1, 0);
        drawerFault("half 2", 1, 6);
        drawerFault("half 2  ", 1, 8);
        drawerFault("half", 1, 4);
        drawerFault("half;", 1, 4);
        drawerFault("half x;", 1, 5);
        drawerFault("half -1;", 1, 5);
        drawerFault("half 2,", 1, 6);
        drawerFault("half 2 2;", 1, 7);
        drawerFault("half 2;;", 1, 7);
        drawerFault("half 2; \t", 1, 8);
        drawerFault("half 2;" + (char) 255, 1, 7);
        drawerFault("half 2;" + (char) 160, 1, 7);
        drawerFault("life 1 1 1;", 1, 10);
        drawerFault("life 111 x", 2, 5);
        drawerFault("half 5", 2, 5);
    }

    private static void drawerLimits() {
        CHECK.part("promise 3, limits");
        drawerOk(LIFE.repeat(8), 8);
        drawerFault(LIFE.repeat(9), 3, 104);
        drawerFault(LIFE.repeat(8) + "life", 3, 104);
        drawerFault(LIFE.repeat(8) + "  life 999", 3, 106);
        drawerFault(LIFE.repeat(8) + "lifes", 1, 104);
        drawerOk(LIFE + "fact 0 0 1;".repeat(24), 1);
        drawerFault(LIFE + "fact 0 0 1;".repeat(25), 3, 277);
        drawerFault(LIFE + "fact 0 0 1;".repeat(24) + "fact 9", 3, 277);
        drawerOk("half 2;".repeat(60), 0);
        drawerOk("half 2;".repeat(60) + "  ", 0);
        drawerFault("half 2;".repeat(61), 3, 420);
        drawerFault("half 2;".repeat(60) + " wrong", 3, 421);
        drawerFault("half 2;".repeat(60) + "x", 1, 420);
        drawerFault("half 2;".repeat(60) + ";", 1, 420);
        drawerOk("half 2;".repeat(60) + " ".repeat(180), 0);
    }

    private static void drawerBeginsAnew() {
        CHECK.part("promise 3, anew");
        LifeDrawer x = Check.with(LIFE + LIFE + "has 0 3;hours 5;fact 0 0 1;");
        Check.law(x, "7");
        Check.page(x, "0 1;");
        Check.work(x, "die 1;week;die 0;die 0;");
        x.image();
        CHECK.due("best", x.best(1, 0), 0);
        CHECK.due("a fault", Check.drawer(x, LIFE + "has 0 9;hours 2;fact 0 0 1;x"), -9);
        CHECK.due("lives stay", x.told(0), 2);
        CHECK.due("facts stay", x.facts(0), 1);
        CHECK.due("lacked stay", x.told(5), 1);
        CHECK.due("run stay", x.told(6), 1);
        CHECK.due("the week stays", x.told(1), 1);
        CHECK.due("refused stay", x.told(8), 1);
        CHECK.due("the page stays", x.told(7), 1);
        CHECK.due("the law stays", x.would(1, 1, 1, 0, 0), 7);
        CHECK.due("images stay", x.count(0), 1);
        CHECK.due("works stay", x.count(2), 1);
        CHECK.due("anew", Check.drawer(x, LIFE + LIFE), 2);
        int[] told = {2, 0, 8, 2, 0, 0, 0, 0, 0};
        for (int i = 0; i < told.length; i++) CHECK.due("told(" + i + ")", x.told(i), told[i]);
        CHECK.due("best anew", x.bestIn(1, 0), 3);
        CHECK.due("no page", x.whose(), 3);
        Check.work(x, "week;");
        CHECK.due("no facts", x.facts(0), 0);
        x.undo();
        CHECK.due("no law", x.would(1, 1, 1, 0, 0), 2);
        CHECK.due("no images", x.count(0), 0);
        CHECK.due("nothing to undo", x.undo(), -1);
        CHECK.due("nothing lost", x.loss(0), 0);
        CHECK.due("no piece", x.life(0, 6), -1);
        CHECK.due("nothing to restore", x.restore(), -1);
    }

    private static void drawerRefusals() {
        CHECK.part("promise 3, refusals");
        LifeDrawer x = new LifeDrawer();
        CHECK.due("a fault", Check.drawer(x, "half 5;"), -8);
        Check.feed(x, LIFE);
        CHECK.bad("drawer(-1)", () -> x.drawer(-1));
        CHECK.bad("drawer(21)", () -> x.drawer(21));
        CHECK.bad("drawer(601)", () -> x.drawer(601));
        CHECK.due("the tape stays", x.count(1), 20);
        CHECK.due("the fault stays", x.fault(), 5);
        CHECK.due("status(1)", x.status(1), 3);
        CHECK.due("drawer(13)", x.drawer(13), 1);
        CHECK.bad("drawer(1) of an empty tape", () -> x.drawer(1));
        CHECK.due("drawer(0)", x.drawer(0), 0);
        CHECK.due("600 bytes", Check.drawer(x, LIFE + " ".repeat(587)), 1);
    }

    private static void lawValue(String text, int want) {
        LifeDrawer x = new LifeDrawer();
        CHECK.due("law " + text, Check.law(x, text), 1);
        CHECK.due("would by " + text, x.would(10, 50, 7, 1, 3), want);
    }

    private static void lawValues() {
        CHECK.part("promise 4, values");
        lawValue("age", 10);
        lawValue("years", 50);
        lawValue("worth", 7);
        lawValue("dead", 1);
        lawValue("facts", 3);
        lawValue("0", 0);
        lawValue("63", 63);
        lawValue("64", 64);
        lawValue("999", 64);
        lawValue("007", 7);
        lawValue("0-5", 0);
        lawValue("2+3*4", 14);
        lawValue(" 2 * 3 + 4 ", 10);
        lawValue("20 - 5 - 3", 12);
        lawValue("20 - (5 - 3)", 18);
        lawValue("40 / 4 / 5", 2);
        lawValue("40 / (4 / 5)", 0);
        lawValue("7 / 2 * 2", 6);
        lawValue("(1 - 8) / 2 + 10", 7);
        lawValue("7 / (1 - dead) + 9", 9);
        lawValue("least[age,3]", 3);
        lawValue("most [ age , 3 ]", 10);
        lawValue("least[0-9,2]+20", 11);
        lawValue("least [ age , 3 ] * (facts + 1) - most[dead,0]", 11);
        lawValue("age * 3 + dead * 10 - facts * 7 + years / 40 - worth / 7", 19);
        // 999 to the 4th is below 0 in 32 bits
        lawValue("999*999*999*999", 0);
        lawValue("0-999*999*999*999", 64);
        // the least of 32 bits by -1 is itself
        lawValue("(0-512*512*512*16)/(0-1)", 0);
        lawValue("0-512*512*512*16-1", 64);
    }

    private static void lawFault(String text, int kind, int at) {
        LifeDrawer x = new LifeDrawer();
        Check.law(x, "age + 1");
        CHECK.due("law " + text, Check.law(x, text), kind - 10);
        CHECK.due("fault of " + text, x.fault(), at);
        CHECK.due("the law stays behind " + text, x.would(3, 0, 1, 0, 0), 4);
    }

    private static void lawFaults() {
        CHECK.part("promise 4, faults");
        lawFault("", 1, 0);
        lawFault("   ", 1, 3);
        lawFault("ages", 1, 0);
        lawFault("again", 1, 0);
        lawFault("1000", 2, 0);
        lawFault("1 + 1000 )", 2, 4);
        lawFault("1 +", 1, 3);
        lawFault("1 + + 2", 1, 4);
        lawFault("-1", 1, 0);
        lawFault("1 2", 1, 2);
        lawFault("age age", 1, 4);
        lawFault("1;", 1, 1);
        lawFault("(1", 1, 2);
        lawFault("1)", 1, 1);
        lawFault("(1]", 1, 2);
        lawFault("()", 1, 1);
        lawFault("least", 1, 5);
        lawFault("least 1", 1, 6);
        lawFault("least(1,2)", 1, 5);
        lawFault("least [1]", 1, 8);
        lawFault("most[1,2", 1, 8);
        lawFault("most[1,2)", 1, 8);
        lawFault("most[1,2,3]", 1, 8);
        lawFault("1 % 2", 1, 2);
        lawFault("age" + (char) 255, 1, 3);
    }

    private static void lawLimits() {
        CHECK.part("promise 4, limits");
        lawValue("((((((1))))))", 1);
        lawFault("(((((((1)))))))", 3, 6);
        lawFault("(((((((", 3, 6);
        lawValue("least[(((((1))))),(((((2)))))]", 1);
        lawFault("least[((((((1)))))),1]", 3, 11);
        lawFault("((((((least[1,2]))))))", 3, 6);
        lawFault("(((((( most 1))))))", 3, 7);
        lawFault("((((((leasts[1,2]))))))", 1, 6);
        lawValue("most[most[most[most[most[most[1,2],3],4],5],6],7]", 7);
        lawFault("most[most[most[most[most[most[most[1,2],3],4],5],6],7],8]", 3, 30);
        // the most that can be held back at once: a sum, a product and a first of two, six times
        lawValue("1+1*most[0,".repeat(6) + "1+1*7" + "]".repeat(6), 14);
        lawValue("1-1*(".repeat(6) + "1-1*0" + ")".repeat(6), 1);
        lawValue("(1)+(1)+(1)+(1)+(1)+(1)+(1)+(1)", 8);
        lawValue("9+(8*(7-(6+(5*(4-(3+2))))))", 57);
        lawValue("0" + "+0".repeat(73) + "+9" + " ", 9);
        LifeDrawer x = new LifeDrawer();
        Check.feed(x, "1".repeat(3) + " ".repeat(157));
        CHECK.bad("law(151)", () -> x.law(151));
        CHECK.bad("law(-1)", () -> x.law(-1));
        CHECK.due("the tape stays", x.count(1), 160);
        CHECK.due("law(150)", x.law(150), 1);
        CHECK.bad("law(1) of an empty tape", () -> x.law(1));
        CHECK.due("status(1)", x.status(1), 3);
    }

    private static LifeDrawer three() {
        return Check.with("life 60 2 10 4;life 80 8 20 2;life 30 0 5 3;has 1 10;by 1 0;fact 1 0 3;fact 1 2 5;fact 0 1 2;"
            + "hours 6;lack 5;wrong 3;half 2;");
    }

    private static void done(LifeDrawer x, String text, int done, int refused) {
        CHECK.due("work " + text, Check.work(x, text), done);
        CHECK.due("refused by " + text, x.told(8), refused);
    }

    private static void workSteps() {
        CHECK.part("promise 5, steps");
        LifeDrawer x = three();
        done(x, "write 1;", 0, 1);
        done(x, "renew 0;", 0, 1);
        done(x, "write 0;write 2;", 1, 1);
        CHECK.due("hours left", x.told(2), 2);
        done(x, "renew 1;renew 1;renew 0;", 1, 2);
        CHECK.due("hours left", x.told(2), 1);
        done(x, "die 2;die 2;write 2;renew 2;", 1, 3);
        CHECK.due("two hours go as far as there are any", x.told(2), 0);
        CHECK.due("lacked", x.told(5), 1);
        CHECK.fraction("lost", x.loss(0), x.loss(1), 25, 1);
        done(x, "week;", 1, 0);
        CHECK.due("hours are there again", x.told(2), 6);
        CHECK.due("a week older", x.life(0, 6), 1);
        done(x, "die 1;", 1, 0);
        CHECK.due("run", x.told(6), 1);
        CHECK.due("hours stay if it runs", x.told(2), 6);
        CHECK.due("the piece is gone", x.told(4), 1);
        // 3 times 20 lines times 2 of 64
        CHECK.fraction("lost", x.loss(0), x.loss(1), 215, 8);
        done(x, "again 3 [week;again 2 [renew 0;];];", 6, 3);
        done(x, "again 0 [week;];", 0, 0);
        done(x, "again 5 [];", 0, 0);
        done(x, "", 0, 0);
        CHECK.due("works", x.count(2), 11);
        LifeDrawer y = three();
        done(y, "die 0;", 1, 0);
        CHECK.due("two hours go", y.told(2), 4);
    }

    private static void workFault(String text, int kind, int at) {
        LifeDrawer x = three();
        Check.work(x, "renew 0;");
        CHECK.due("work " + text, Check.work(x, text), kind - 10);
        CHECK.due("fault of " + text, x.fault(), at);
        CHECK.due("week behind " + text, x.told(1), 0);
        CHECK.due("works behind " + text, x.count(2), 1);
        CHECK.due("refused behind " + text, x.told(8), 1);
        CHECK.due("tape behind " + text, x.count(1), 0);
    }

    private static void workFaults() {
        CHECK.part("promise 5, faults");
        workFault("week;write 3;", 2, 11);
        workFault("week;renew 3;", 2, 11);
        workFault("week;die 3;", 2, 9);
        workFault("week;die", 1, 8);
        workFault("week;die;", 1, 8);
        workFault("week", 1, 4);
        workFault("weeks;", 1, 0);
        workFault("week 1;", 1, 5);
        workFault(";", 1, 0);
        workFault("]", 1, 0);
        workFault("week;]", 1, 5);
        workFault("again 21 [];", 2, 6);
        workFault("again [];", 1, 6);
        workFault("again 1 week;", 1, 8);
        workFault("again 1 [week]", 1, 13);
        workFault("again 1 [week;]", 1, 15);
        workFault("again 1 [", 1, 9);
        workFault("again 1 [week;  ", 1, 16);
        workFault("again 1 [".repeat(7), 3, 54);
        workFault("again 1 [".repeat(6) + "agains", 1, 54);
        workFault("again 1 [".repeat(6) + "die 9;", 2, 58);
        LifeDrawer x = three();
        done(x, "again 1 [".repeat(6) + "week;" + "];".repeat(6), 1, 0);
        done(x, "again 1 [];".repeat(8), 0, 0);
        LifeDrawer none = new LifeDrawer();
        CHECK.due("no lives", Check.work(none, "die 0;"), -8);
    }

    private static void workLimits() {
        CHECK.part("promise 5, limits");
        LifeDrawer x = three();
        done(x, "again 20 [again 20 [renew 0;];];die 2;", 0, 189);
        CHECK.due("what would come behind is left out", x.told(3), 3);
        // 1 and 19 times 10 and 1 leave 8 of the 200
        done(x, "again 20 [again 9 [week;];];die 2;", 179, 0);
        done(x, "again 20 [again 2 [week;];];", 21, 19);
        CHECK.due("week 200 at most", x.told(1), 200);
        CHECK.due("age", x.life(1, 6), 210);
        done(x, "again 10 [again 20 [];];" + "again 20[die 0;];", 1, 19);
        for (int i = 5; i <= 16; i++) CHECK.due("work " + i, Check.work(x, ""), 0);
        Check.feed(x, "what is this");
        CHECK.due("a 17th", x.work(12), -20);
        CHECK.due("no fault", x.fault(), -1);
        CHECK.due("the tape is empty", x.count(1), 0);
        CHECK.bad("a 17th of no tape", () -> x.work(1));
        CHECK.due("undo", x.undo(), 15);
        CHECK.due("then again", Check.work(x, ""), 0);
        Check.feed(x, " ".repeat(160));
        CHECK.bad("work(151)", () -> x.work(151));
        CHECK.bad("work(-1)", () -> x.work(-1));
        CHECK.due("the tape stays", x.count(1), 160);
        CHECK.due("status(1)", x.status(1), 3);
        x.undo();
        CHECK.due("work(150)", x.work(150), 0);
    }

    private static void pageFault(String text, int kind, int at) {
        LifeDrawer x = three();
        Check.page(x, "3 1;");
        CHECK.due("page " + text, Check.page(x, text), kind - 10);
        CHECK.due("fault of " + text, x.fault(), at);
        CHECK.due("the page stays behind " + text, x.told(7), 1);
        CHECK.due("tape behind " + text, x.count(1), 0);
    }

    private static void page() {
        CHECK.part("promise 6");
        LifeDrawer x = three();
        CHECK.due("page", Check.page(x, " 0 1;5 0 ; "), 2);
        CHECK.due("lines", x.told(7), 2);
        CHECK.due("six lines", Check.page(x, "0 1;1 1;2 1;3 1;4 1;5 1;"), 6);
        CHECK.due("none", Check.page(x, ""), 0);
        CHECK.due("lines", x.told(7), 0);
        pageFault("6 0;", 2, 0);
        pageFault("0 2;", 2, 2);
        pageFault("0 1;0 0;", 2, 4);
        pageFault("0 1;0 x;", 2, 4);
        pageFault("0 1;1 1;2 1;3 1;4 1;5 1;0 0;", 2, 24);
        pageFault("0 1", 1, 3);
        pageFault("0", 1, 1);
        pageFault("01;", 1, 2);
        pageFault("0 1;x", 1, 4);
        pageFault("a 1;", 1, 0);
        pageFault("0 1;;", 1, 4);
        Check.feed(x, " ".repeat(80));
        CHECK.bad("page(61)", () -> x.page(61));
        CHECK.bad("page(-1)", () -> x.page(-1));
        CHECK.due("the tape stays", x.count(1), 80);
        CHECK.due("page(60)", x.page(60), 0);
        CHECK.bad("page(1) of an empty tape", () -> x.page(1));
        CHECK.due("status(1)", x.status(1), 3);
    }

    private static void fault() {
        CHECK.part("promise 7");
        LifeDrawer x = new LifeDrawer();
        Check.law(x, "1 + x");
        CHECK.due("fault", x.fault(), 4);
        CHECK.due("asked again", x.fault(), 4);
        CHECK.bad("page(1)", () -> x.page(1));
        CHECK.due("no text was read", x.fault(), 4);
        x.page(0);
        CHECK.due("without", x.fault(), -1);
        Check.page(x, "9");
        CHECK.due("of the page", x.fault(), 0);
        Check.law(x, "1");
        CHECK.due("without", x.fault(), -1);
        Check.drawer(x, "life");
        CHECK.due("at the length", x.fault(), 4);
        Check.work(x, "");
        CHECK.due("without", x.fault(), -1);
    }

    private static void undo() {
        CHECK.part("promise 8");
        LifeDrawer x = three();
        Check.work(x, "week;week;week;renew 1;");
        Check.work(x, "write 0;die 1;die 2;die 2;");
        CHECK.due("refused", x.told(8), 1);
        Check.law(x, "5");
        CHECK.due("undo", x.undo(), 1);
        int[] told = {3, 3, 5, 3, 1, 0, 0, 0, 0};
        for (int i = 0; i < told.length; i++) CHECK.due("told(" + i + ")", x.told(i), told[i]);
        CHECK.fraction("loss", x.loss(0), x.loss(1), 0, 1);
        CHECK.due("the law stays", x.wrong(1), 5);
        CHECK.due("a fault is no work", Check.work(x, "x"), -9);
        CHECK.due("undo", x.undo(), 0);
        CHECK.due("week", x.told(1), 0);
        CHECK.due("age", x.life(1, 6), 10);
        CHECK.due("hours", x.told(2), 6);
        CHECK.due("undo", x.undo(), -1);
    }
}
