/** The boundary cases of promises 22 to 30: the best weeks, how often to renew, a rumour, room on a page. */
final class EdgesOfChoices {
    private static final String NO_LIFE = "NoSuchElementException: no such LIFE (so below, ahead of others).";
    private static final String PARTS = "above (part 0), below (part 1), in least terms (so below).";
    private static Edges E;

    static void tell(Edges edges) {
        E = edges;
        bestBounds();
        bestHours();
        bestWeeks();
        bestAlike();
        often();
        yearly();
        brings();
        says();
        line();
        room();
        lines();
    }

    private static void bestBounds() {
        E.bounds(22, "BEST of n WEEKS (1 to 3)", "", "best(?, 0)", 1, 3, "bad");
        E.askBounds(22, "BEST of n WEEKS (1 to 3)", "best(?, 0)", 1, 3);
        E.askBounds(22, PARTS, "best(1, ?)", 0, 1);
        E.askBounds(22, PARTS, "best(3, ?)", 0, 1);
        E.bounds(23, "(k 0 to n less 1)", "", "bestIn(3, ?)", 0, 2, "bad");
        E.askBounds(23, "in the k-th of n WEEKS", "bestIn(?, 0)", 1, 3);
        E.askBounds(23, "(k 0 to n less 1)", "bestIn(1, ?)", 0, 0);
        E.askBounds(23, "(k 0 to n less 1)", "bestIn(2, ?)", 0, 1);
        E.askBounds(23, "(k 0 to n less 1)", "bestIn(3, ?)", 0, 2);
        E.edge(22, "BEST of n WEEKS (1 to 3): its loss on the mean.", """
            // none alive, none who can die
            drawer "life 1 64 9 1;life 1 0 9 1;" -> 2
            work "die 0;" -> 1
            best(1..3) -> 0/1
            bestIn(3, 0..2) -> 0
            """);
    }

    private static void bestHours() {
        E.edge(22, "HOURS together no more than are left (in this one), or than there are", """
            drawer "life 1 64 1 4;life 1 64 1 4;lack 1;hours 8;" -> 2
            best(1) -> 0/1
            bestIn(1, 0) -> 3
            drawer "life 1 64 1 4;life 1 64 1 4;lack 1;hours 7;" -> 2
            best(1) -> 1/1
            bestIn(1, 0) -> 1
            drawer "life 1 64 1 4;life 1 64 1 4;lack 1;hours 4;" -> 2
            best(1) -> 1/1
            bestIn(1, 0) -> 1
            drawer "life 1 64 1 4;life 1 64 1 4;lack 1;hours 3;" -> 2
            best(1) -> 2/1
            bestIn(1, 0) -> 0
            new
            // HOURS that are left in this WEEK: 8 less 4, 8 less 5
            drawer "life 1 64 1 4;life 1 64 1 4;life 1 0 1 4;lack 1;hours 8;" -> 3
            work "write 2;" -> 1
            best(1) -> 1/1
            bestIn(1, 0) -> 1
            drawer "life 1 64 1 4;life 1 64 1 4;life 1 0 1 5;lack 1;hours 8;" -> 3
            work "write 2;" -> 1
            best(1) -> 2/1
            bestIn(1, 0) -> 0
            work "week;" -> 1
            bestIn(1, 0) -> 3
            new
            // none are left in this one: one is written in the next, the other one in the third
            drawer "life 1 32 1 4;life 1 32 1 4;life 1 0 1 4;lack 1;hours 4;" -> 3
            work "write 2;" -> 1
            best(1..3) -> 1/1 5/4 323/256
            bestIn(2, 0..1) -> 0 1
            bestIn(3, 0..2) -> 0 1 2
            """);
        E.edge(23, "LIVES written or renewed by BEST", """
            drawer "life 1 64 1 1;"*8 + "lack 1;hours 12;" -> 8
            best(1) -> 0/1
            bestIn(1, 0) -> 255
            drawer "life 1 64 1 1;"*8 + "lack 1;hours 8;" -> 8
            bestIn(1, 0) -> 255
            drawer "life 1 64 1 1;"*8 + "lack 1;hours 7;" -> 8
            best(1) -> 1/1
            bestIn(1, 0) -> 127
            drawer "life 1 64 1 9;"*8 + "lack 1;hours 9;" -> 8
            best(1..3) -> 7/1
            bestIn(3, 0..2) -> 1 0 0
            drawer "life 1 64 1 9;"*8 + "lack 1;hours 8;" -> 8
            best(1..3) -> 8/1
            bestIn(3, 0..2) -> 0 0 0
            new
            // all of 12 HOURS, and of 11
            drawer "life 1 64 1 3;"*4 + "lack 1;hours 12;" -> 4
            best(1..3) -> 0/1
            bestIn(3, 0..2) -> 15 0 0
            drawer "life 1 64 1 3;"*4 + "lack 1;hours 11;" -> 4
            best(1..3) -> 1/1
            bestIn(3, 0..2) -> 7 0 0
            drawer "life 1 32 64 3;"*4 + "lack 1;wrong 1;hours 12;half 1;" -> 4
            law "age" -> 1
            best(3) -> 0/1
            bestIn(3, 0..2) -> 15
            new
            // written by 4, then renewed by 2 while the other one is written by 4
            drawer "life 1 32 64 4;life 1 32 64 4;wrong 1;lack 1;hours 6;" -> 2
            law "age" -> 1
            best(1..3) -> 32/1 32/1 32/1
            bestIn(3, 0..2) -> 1 3 3
            new
            // all are renewed, each by the one HOUR that it takes
            drawer "life 1 32 9 3;"*8 + "has 0 9;has 1 9;has 2 9;has 3 9;has 4 9;has 5 9;has 6 9;has 7 9;hours 8;half 4;" -> 8
            best(3) -> 0/1
            bestIn(3, 0..2) -> 255
            """);
        E.edge(22, "HOURS for it are spent also if he has died", """
            // a second WEEK for one of two alone, though both live on in one case of four
            drawer "life 1 32 1 1;life 1 32 1 1;lack 1;wrong 0;hours 1;" -> 2
            best(1..3) -> 1/2 1/2 1/2
            new
            drawer "life 1 32 1 1;life 1 32 1 1;life 1 0 1 1;lack 1;wrong 0;hours 1;" -> 3
            work "write 2;" -> 1
            best(1..3) -> 1/1 5/4 5/4
            """);
    }

    private static void bestWeeks() {
        E.edge(22, "WEEKS ahead, n (1 to 3) of them from this one on | then each dies by D of 64, if he has not", """
            drawer "life 1 32 1 9;lack 1;" -> 1
            best(1..3) -> 1/2 3/4 7/8
            drawer "life 1 64 1 9;lack 1;" -> 1
            best(1..3) -> 1/1
            drawer "life 1 1 1 9;lack 1;" -> 1
            best(1..3) -> 1/64 127/4096 12097/262144
            drawer "life 1 0 1 9;lack 9;" -> 1
            best(1..3) -> 0/1
            drawer "life 1 63 99 9;"*8 + "lack 9;hours 8;" -> 8
            best(3) -> 233569413/32768
            """);
        E.edge(22, "in each those who are alive may each be written or renewed (as above)", """
            // written at H, then renewed by HOURS to renew; a piece of 0 WEEKS is not renewed
            drawer "life 1 32 64 8;wrong 1;hours 8;" -> 1
            law "age" -> 1
            best(1..3) -> 0/1
            bestIn(3, 0..2) -> 1 1 1
            drawer "life 1 32 64 8;life 1 0 1 1;wrong 1;hours 8;half 1;" -> 2
            law "age" -> 1
            work "write 0;" -> 1
            best(1..3) -> 0/1
            bestIn(3, 0..2) -> 0 1 1
            drawer "life 1 32 64 9;has 0 1;wrong 1;hours 8;half 1;" -> 1
            law "age" -> 1
            // ages 1, 2, 3: a half, a half, three eighths
            best(1..3) -> 1/2 1/1 11/8
            bestIn(3, 0..2) -> 0
            """);
        E.edge(22, "FACTS go on; each is asked of apart", """
            drawer "life 1 32 4 9;has 0 0;fact 0 0 1;hours 1;half 1;wrong 1;" -> 1
            law "facts * 32" -> 1
            best(1..3) -> 0/1 1/2 3/4
            work "week;" -> 1
            best(1) -> 1/1
            """);
        E.edge(22, "whether the one by whom his piece is lives on is not (as it is now)", """
            drawer "life 1 64 1 9;life 1 32 1 9;has 0 0;has 1 0;by 1 0;hours 1;half 1;wrong 1;" -> 2
            law "dead * 64" -> 1
            best(1..3) -> 0/1
            work "die 0;" -> 1
            best(1..3) -> 1/2 3/4 7/8
            """);
        E.edge(22, "n (1 to 3) of them from this one on", """
            // asked again, it is as it is then: behind a LAW, a WORK, undo(), restore(), another DRAWER
            drawer "life 1 64 10 9;has 0 32;hours 1;half 1;" -> 1
            best(1) -> 30/1
            law "32" -> 1
            best(1) -> 15/1
            image() -> 1
            work "die 0;" -> 1
            best(1) -> 0/1
            undo() -> 0
            best(1) -> 15/1
            work "die 0;" -> 1
            best(1) -> 0/1
            restore() -> 0
            best(1) -> 15/1
            best(2) -> 15/1
            drawer "life 1 64 10 9;hours 1;" -> 1
            best(2) -> 50/1
            bestIn(2, 0) -> 0
            drawer "life 1 64 10 9;hours 9;" -> 1
            bestIn(2, 0) -> 1
            """);
        E.edge(22, "FACTS go on", """
            // beyond WEEK 200, too: ages 200, 201, 202
            drawer "life 1 32 64 9;has 0 0;hours 1;half 1;wrong 1;" -> 1
            4 times work "again 10[again 5[week;];];" -> 50
            law "(age - 200) * 32" -> 1
            best(1..3) -> 0/1 8/1 16/1
            """);
    }

    private static void bestAlike() {
        E.edge(23, "of alike ones the first (WEEK by WEEK the least bits)", """
            // renewed now or in the next WEEK: it is wrong from 3 WEEKS on
            drawer "life 1 32 9 1;has 0 2;" -> 1
            law "least[1, age / 3] * 64" -> 1
            best(1..3) -> 0/1
            bestIn(1, 0) -> 0
            bestIn(2, 0..1) -> 0 1
            bestIn(3, 0..2) -> 0 1 0
            new
            // who can't die, who is as wrong when new, who is dead: left out
            drawer "life 1 0 9 1;life 1 9 9 1;life 1 9 9 1;has 0 9;has 1 9;" -> 3
            law "7" -> 1
            work "die 2;" -> 1
            bestIn(3, 0..2) -> 0
            new
            // one of 0 and 2, at the same HOURS: the least bits
            drawer "life 1 8 9 3;life 1 0 9 3;life 1 8 9 3;hours 3;" -> 3
            bestIn(1, 0) -> 1
            new
            // two of worth 3, or one of worth 6: bits 3 or 4
            drawer "life 1 8 3 1;life 1 8 3 1;life 1 8 6 2;hours 2;" -> 3
            best(1) -> 15/4
            bestIn(1, 0) -> 3
            drawer "life 1 8 6 2;life 1 8 3 1;life 1 8 3 1;hours 2;" -> 3
            bestIn(1, 0) -> 1
            """);
    }

    private static void often() {
        E.lifeBounds(24, NO_LIFE, "often(?, 0)");
        E.askBounds(24, "OFTEN by c (0 to 999).", "often(0, ?)", 0, 999);
        E.edge(24, NO_LIFE, Edges.FED + """
            keeps often(3, 1000) -> nosuch
            keeps often(-1, -1) -> nosuch
            keeps often(0, 1000) -> bad
            """);
        E.edge(24, "the k by which that is least, of these the least | (1 to 30)", """
            // all alike: nothing is risked, nothing is paid
            drawer "life 1 0 8 9;life 1 64 8 9;" -> 2
            often(0, 0) -> 1
            often(0, 1) -> 30
            often(0, 999) -> 30
            law "0" -> 1
            often(1, 0) -> 1
            often(1, 1) -> 30
            // as wrong at any age: the price alone
            law "64" -> 1
            often(1, 0) -> 1
            often(1, 999) -> 30
            new
            // (k less 1) by 16, and c by k: 15 and 16 are alike by 15; 14 and 15 by 13.125
            drawer "life 1 64 8 1;wrong 1;" -> 1
            law "age" -> 1
            often(0, 15) -> 15
            often(0, 14) -> 15
            often(0, 13) -> 14
            often(0, 0) -> 1
            // 29 times 30 by 16 is 54.375
            often(0, 54) -> 29
            often(0, 55) -> 30
            often(0, 999) -> 30
            // less wrong from age to age
            law "64 - age" -> 1
            often(0, 0) -> 30
            // ages 0 to k less 1: wrong from 28, 29 and 30 WEEKS on
            law "age / 28 * 64" -> 1
            often(0, 1) -> 28
            law "age / 29 * 64" -> 1
            often(0, 1) -> 29
            law "age / 30 * 64" -> 1
            often(0, 1) -> 30
            // wrong when it is new, and then no more
            law "(1 - age) * 64" -> 1
            often(0, 0) -> 30
            law "least[age, 1] * 64" -> 1
            often(0, 1) -> 1
            often(0, 17) -> 30
            """);
        E.edge(24, "no FACTS changed, years, dead as they are now", """
            drawer "life 1 64 8 1;life 1 1 1 1;has 0 40;by 0 1;fact 0 0 1;wrong 1;" -> 2
            work "week;" -> 1
            law "facts * 64 + dead * age" -> 1
            yearly(0, 0, 30) -> 0/1
            work "die 1;" -> 1
            often(0, 15) -> 15
            yearly(0, 15, 15) -> 15/8
            law "years * age" -> 1
            often(0, 15) -> 15
            new
            drawer "life 0 64 64 1;has 0 9;fact 0 0 52;wrong 1;" -> 1
            work "again 10[again 5[week;];];week;" -> 51
            law "facts + years" -> 1
            yearly(0, 0, 30) -> 0/1
            work "week;" -> 1
            yearly(0, 0, 30) -> 1/1
            """);
    }

    private static void yearly() {
        E.lifeBounds(25, NO_LIFE, "yearly(?, 0, 1, 0)");
        E.askBounds(25, "c 0 to 999", "yearly(0, ?, 1, 0)", 0, 999);
        E.askBounds(25, "by a k (1 to 30)", "yearly(0, 0, ?, 0)", 1, 30);
        E.askBounds(25, PARTS, "yearly(0, 0, 1, ?)", 0, 1);
        E.edge(25, NO_LIFE, Edges.FED + """
            keeps yearly(3, 1000, 31, 2) -> nosuch
            keeps yearly(-1, -1, 0, -1) -> nosuch
            keeps yearly(0, 1000, 31, 2) -> bad
            """);
        E.edge(25, "What that is by a k (1 to 30), c 0 to 999. | RISK together at ages 0 to k less 1 of its piece", """
            drawer "life 1 64 8 1;life 1 64 99 9;life 1 0 1 1;wrong 1;half 1;" -> 3
            law "age" -> 1
            yearly(0, 0, 1) -> 0/1
            yearly(0, 0, 2) -> 1/16
            yearly(0, 15, 15) -> 15/8
            yearly(0, 15, 16) -> 15/8
            yearly(0, 0, 30) -> 29/16
            yearly(0, 999, 1) -> 999/1
            yearly(0, 999, 30) -> 2809/80
            yearly(1, 999, 1) -> 8991/1
            yearly(1, 0, 30) -> 2871/128
            yearly(2, 0, 30) -> 0/1
            yearly(2, 999, 30) -> 333/10
            law "64" -> 1
            yearly(1, 0, 1) -> 99/1
            yearly(1, 999, 1) -> 9090/1
            // ages 0 to k less 1: the last but one is not wrong
            law "most[0, age - 28]" -> 1
            yearly(0, 0, 29) -> 0/1
            yearly(0, 0, 30) -> 1/240
            """);
    }

    private static final String RUMOUR = "RUMOUR (T, B 0 to 16; v, x, y 0 to 999)";

    private static void brings() {
        E.askBounds(26, RUMOUR, "brings(?, 0, 0, 0, 0, 0)", 0, 16);
        E.askBounds(26, RUMOUR, "brings(0, ?, 0, 0, 0, 0)", 0, 16);
        E.askBounds(26, RUMOUR, "brings(0, 0, ?, 0, 0, 0)", 0, 999);
        E.askBounds(26, RUMOUR, "brings(0, 0, 0, ?, 0, 0)", 0, 999);
        E.askBounds(26, RUMOUR, "brings(0, 0, 0, 0, ?, 0)", 0, 999);
        E.askBounds(26, "what RUN (0), RING (1), WAIT (2) bring", "brings(0, 0, 0, 0, 0, ?)", 0, 2);
        E.edge(26, "what RUN (0), RING (1), WAIT (2) bring, in 256ths (below 0 may be). | true by T of 16. | by B of 16 another paper has it first", """
            brings(0, 0, 999, 999, 999, 0..2) -> -255744 -255744 0
            brings(16, 0, 999, 999, 999, 0..2) -> 255744 255744 255744
            brings(16, 16, 999, 999, 999, 0..2) -> 255744 255744 0
            brings(0, 16, 999, 999, 999, 0..2) -> -255744 -255744 0
            brings(8, 8, 0, 0, 0, 0..2) -> 0
            brings(1, 15, 1, 1, 1, 0..2) -> -224 -224 1
            brings(15, 1, 1, 1, 1, 0..2) -> 224 224 225
            brings(8, 0, 5, 3, 4, 0..2) -> 256 128 640
            """);
    }

    private static void says() {
        E.askBounds(27, RUMOUR, "says(?, 0, 0, 0, 0)", 0, 16);
        E.askBounds(27, RUMOUR, "says(0, ?, 0, 0, 0)", 0, 16);
        E.askBounds(27, RUMOUR, "says(0, 0, ?, 0, 0)", 0, 999);
        E.askBounds(27, RUMOUR, "says(0, 0, 0, ?, 0)", 0, 999);
        E.askBounds(27, RUMOUR, "says(0, 0, 0, 0, ?)", 0, 999);
        E.edge(27, "the most on the mean, of alike ones the first in this order", """
            says(0, 0, 0, 0, 0) -> 0
            says(16, 16, 999, 999, 999) -> 0
            says(16, 0, 999, 999, 999) -> 0
            says(0, 0, 999, 0, 0) -> 0
            says(0, 0, 999, 1, 0) -> 1
            says(0, 0, 999, 0, 1) -> 0
            says(0, 0, 999, 1, 1) -> 2
            says(8, 16, 9, 9, 8) -> 1
            // RUN and RING are alike, and more than WAIT
            says(8, 16, 9, 8, 8) -> 0
            // RUN and WAIT are alike: 8 times 8 by half is 8 times 16 less 8 times 8
            says(8, 8, 2, 1, 9) -> 0
            // RING and WAIT are alike
            says(8, 8, 2, 9, 1) -> 1
            says(8, 7, 2, 9, 1) -> 2
            says(8, 9, 2, 9, 1) -> 1
            """);
    }

    private static void line() {
        E.askBounds(28, RUMOUR, "line(?, 0, 0, 0)", 0, 16);
        E.askBounds(28, RUMOUR, "line(0, ?, 0, 0)", 0, 999);
        E.askBounds(28, RUMOUR, "line(0, 0, ?, 0)", 0, 999);
        E.askBounds(28, RUMOUR, "line(0, 0, 0, ?)", 0, 999);
        E.edge(28, "LINE: the least T by which it is best to RUN. | LINE; NONE: by no T.", """
            line(0, 0, 0, 0) -> 0
            line(16, 999, 0, 0) -> 0
            line(0, 999, 0, 999) -> 0
            // a sure one: RUN, RING and WAIT are alike
            line(0, 999, 999, 0) -> 16
            line(0, 0, 1, 0) -> 16
            line(16, 999, 999, 0) -> 16
            line(16, 999, 1, 1) -> 1
            line(16, 1, 15, 999) -> 15
            line(16, 1, 16, 999) -> 16
            line(16, 15, 1, 999) -> 1
            line(16, 14, 1, 999) -> 2
            """);
    }

    private static void room() {
        String bits = "IllegalArgumentException: bits of no LIVES (so below).";
        E.bounds(29, bits, "", "room(?, 5)", 0, 0, "bad");
        E.bounds(29, bits, Edges.FED, "room(?, 5)", 0, 7, "bad");
        E.bounds(29, bits, Edges.FULL, "room(?, 5)", 0, 255, "bad");
        E.bounds(29, "ROOM by R (0 to 200)", "", "room(0, ?)", 0, 200, "bad");
        E.askBounds(29, "ROOM by R (0 to 200)", "room(7, ?)", 0, 200);
        E.edge(29, "each gets W lines (worth 3 times W), 3 lines (worth W), or none, all together no more than R lines: the most worth", """
            drawer "life 1 1 1 1;life 1 1 2 1;life 1 1 3 1;life 1 1 4 1;life 1 1 99 1;" -> 5
            room(0, 200) -> 0
            room(1, 0..3) -> 0 3 3 3
            room(2, 0..4) -> 0 0 6 6 6
            room(4, 0..3) -> 0 0 0 9
            room(8, 0..4) -> 0 0 0 4 12
            room(16, 0..4) -> 0 0 0 99 99
            room(16, 98..100) -> 99 297 297
            room(16, 200) -> 297
            room(31, 0) -> 0
            room(31, 109) -> 327
            room(31, 108) -> 324
            room(31, 200) -> 327
            work "die 4;" -> 1
            room(16, 99) -> 297
            new
            drawer "life 1 1 99 1;"*8 -> 8
            room(255, 200) -> 990
            room(255, 120) -> 990
            room(255, 119) -> 891
            room(255, 117) -> 891
            room(255, 116) -> 792
            room(255, 24) -> 792
            room(255, 23) -> 693
            room(192, 198) -> 594
            room(192, 197) -> 396
            room(192, 200) -> 594
            room(128, 2) -> 0
            drawer "life 1 1 25 1;"*8 -> 8
            room(255, 200) -> 600
            room(255, 199) -> 550
            """);
    }

    private static void lines() {
        E.lifeBounds(30, NO_LIFE, "lines(0, 5, ?)");
        E.bounds(30, "bits of no LIVES (so below)", Edges.FED, "lines(?, 5, 0)", 0, 7, "bad");
        E.bounds(30, "bits of no LIVES (so below)", Edges.FULL, "lines(?, 5, 0)", 0, 255, "bad");
        E.askBounds(30, "ROOM by R (0 to 200)", "lines(7, ?, 0)", 0, 200);
        E.edge(30, NO_LIFE, Edges.FED + """
            keeps lines(8, 201, 3) -> nosuch
            keeps lines(-1, -1, -1) -> nosuch
            keeps lines(8, 201, 0) -> bad
            """);
        E.edge(30, "of alike ones the first (LIFE by LIFE: none ahead of 3, of W lines) | How many lines a LIFE gets.", """
            drawer "life 1 1 10 1;life 1 1 10 1;life 1 1 10 1;" -> 3
            lines(7, 0, 0..2) -> 0 0 0
            lines(7, 2, 0..2) -> 0 0 0
            lines(7, 3, 0..2) -> 0 0 3
            lines(7, 6, 0..2) -> 0 3 3
            lines(7, 9, 0..2) -> 3 3 3
            lines(7, 10, 0..2) -> 0 0 10
            lines(7, 13, 0..2) -> 0 3 10
            lines(7, 16, 0..2) -> 3 3 10
            lines(7, 30, 0..2) -> 10 10 10
            lines(7, 29, 0..2) -> 3 10 10
            lines(7, 200, 0..2) -> 10 10 10
            // not among the told ones
            lines(3, 200, 0..2) -> 10 10 0
            lines(0, 200, 0..2) -> 0 0 0
            lines(4, 3, 0..2) -> 0 0 3
            """);
        E.edge(30, "of alike ones the first (LIFE by LIFE: none ahead of 3, of W lines)", """
            drawer "life 1 1 3 1;life 1 1 9 1;life 1 1 1 1;life 1 1 2 1;" -> 4
            // 3 lines of worth 9 each way
            lines(3, 3, 0..1) -> 0 3
            lines(3, 6, 0..1) -> 3 3
            lines(4, 1, 0..3) -> 0 0 1 0
            lines(4, 3, 0..3) -> 0 0 1 0
            lines(8, 3, 0..3) -> 0 0 0 2
            lines(12, 2, 0..3) -> 0 0 0 2
            lines(12, 3, 0..3) -> 0 0 1 2
            new
            drawer "life 1 1 99 1;"*8 -> 8
            lines(255, 200, 0..7) -> 3 3 3 3 3 3 3 99
            lines(255, 119, 0..7) -> 0 3 3 3 3 3 3 99
            // eight times 3 lines, or once 99 and five times 3
            lines(255, 116, 0..7) -> 0 0 3 3 3 3 3 99
            lines(255, 113, 0..7) -> 3 3 3 3 3 3 3 3
            lines(255, 23, 0..7) -> 0 3 3 3 3 3 3 3
            lines(129, 99, 0..7) -> 0 0 0 0 0 0 0 99
            lines(129, 102, 0..7) -> 3 0 0 0 0 0 0 99
            """);
    }
}
