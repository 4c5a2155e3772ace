/** The boundary cases of promises 9 to 21: what is so now, and what deaths cost on the mean. */
final class EdgesOfNow {
    private static final String OTHER_WHAT = "IllegalArgumentException: another what (so below).";
    private static final String NO_LIFE = "NoSuchElementException: no such LIFE (so below, ahead of others).";
    private static final String PARTS = "above (part 0), below (part 1), in least terms (so below).";
    private static Edges E;

    static void tell(Edges edges) {
        E = edges;
        told();
        life();
        facts();
        wrong();
        would();
        loss();
        cost();
        risk();
        saves();
        first();
        lacking();
        signed();
        stale();
    }

    private static void told() {
        E.bounds(9, OTHER_WHAT, "", "told(?)", 0, 8, "bad");
        E.askBounds(9, OTHER_WHAT, "told(?)", 0, 8);
        E.edge(9, "0 LIVES, 1 the WEEK, 2 HOURS left in it, 3 alive, 4 pieces in the drawer, 5 LACKED, 6 RUN, 7 lines of the PAGE", """
            drawer "life 1 1 1 1;"*8 + "hours 12;" -> 8
            told(0..7) -> 8 0 12 8 0 0 0 0
            work "write 0;write 1;write 2;write 3;write 4;write 5;write 6;write 7;" -> 8
            told(0..7) -> 8 0 4 8 8 0 0 0
            work "die 0;die 1;die 2;die 3;die 4;die 5;die 6;die 7;" -> 8
            told(0..7) -> 8 0 4 0 0 0 8 0
            undo() -> 1
            undo() -> 0
            work "die 0;die 1;die 2;die 3;die 4;die 5;die 6;die 7;" -> 8
            told(0..7) -> 8 0 0 0 0 8 0 0
            page "0 0;1 0;2 0;3 0;4 0;5 0;" -> 6
            told(0..7) -> 8 0 0 0 0 8 0 6
            3 times work "again 10[again 5[week;];];" -> 50
            work "again 10[again 6[week;];];" -> 50
            told(0..8) -> 8 200 12 0 0 8 0 6 10
            """);
        E.edge(9, "8 STEPS REFUSED by the latest WORK (0 ahead of any, behind undo(), restore())", """
            told(8) -> 0
            drawer "life 1 1 1 1;" -> 1
            told(8) -> 0
            work "renew 0;renew 0;renew 0;" -> 0
            told(8) -> 3
            law "1" -> 1
            page "" -> 0
            image() -> 1
            told(8) -> 3
            work "x" -> fault 1 at 0
            told(8) -> 3
            work "week;" -> 1
            told(8) -> 0
            work "renew 0;" -> 0
            told(8) -> 1
            work "" -> 0
            told(8) -> 0
            work "renew 0;" -> 0
            undo() -> 4
            told(8) -> 0
            work "renew 0;renew 0;" -> 0
            told(8) -> 2
            restore() -> 0
            told(8) -> 0
            undo() -> 0
            told(8) -> 0
            work "again 20[again 20[renew 0;];];" -> 0
            told(8) -> 189
            """);
    }

    private static void life() {
        E.lifeBounds(10, NO_LIFE, "life(?, 0)");
        E.lifeBounds(10, NO_LIFE, "life(?, 7)");
        E.askBounds(10, OTHER_WHAT, "life(0, ?)", 0, 7);
        E.edge(10, NO_LIFE, Edges.FED + """
            keeps life(3, 8) -> nosuch
            keeps life(-1, -1) -> nosuch
            keeps life(max, min) -> nosuch
            keeps life(0, 8) -> bad
            status(0..1) -> 3 1
            """);
        E.edge(10, "0 years now (dead: as if alive)", """
            drawer "life 110 1 1 1;life 0 1 1 1;" -> 2
            work "die 1;again 10[again 5[week;];];week;" -> 52
            life(0..1, 0) -> 110 0
            work "week;" -> 1
            life(0..1, 0) -> 111 1
            work "again 10[again 5[week;];];week;" -> 51
            life(0..1, 0) -> 111 1
            work "week;" -> 1
            life(0..1, 0) -> 112 2
            2 times work "again 10[again 5[week;];];" -> taken
            told(1) -> 200
            life(0..1, 0) -> 113 3
            """);
        E.edge(10, "1 D, 2 W, 3 H, 4 HOURS to renew, 5 0 alive, 1 dead", """
            drawer "life 0 0 1 1;life 110 64 99 9;half 4;" -> 2
            life(0, 0..5) -> 0 0 1 1 1 0
            life(1, 0..5) -> 110 64 99 9 2 0
            work "die 1;" -> 1
            life(0..1, 5) -> 0 1
            life(1, 0..4) -> 110 64 99 9 2
            """);
        E.edge(10, "6 WEEKS its piece is old (NONE: none), 7 by whom it is (NONE)", """
            drawer "life 1 1 1 1;life 1 1 1 1;life 1 1 1 1;has 0 0;has 1 40;by 1 0;by 2 1;" -> 3
            life(0..2, 6) -> 0 40 -1
            life(0..1, 7) -> -1 0
            work "again 10[again 16[week;];];" -> 160
            work "again 8[again 5[week;];];" -> 40
            life(0..2, 6) -> 200 240 -1
            work "write 2;renew 1;" -> 2
            life(0..2, 6) -> 200 0 0
            life(0..2, 7) -> -1 0 1
            work "die 1;" -> 1
            life(1, 6) -> -1
            """);
    }

    private static void facts() {
        E.lifeBounds(11, NO_LIFE, "facts(?)");
        E.edge(11, "FACTS of a LIFE now, as bits (1: the other one).", """
            drawer "life 1 1 1 1;"*8 + "fact 0 0 1;fact 0 1 1;fact 0 2 1;fact 0 3 1;fact 0 4 1;fact 0 5 1;fact 7 5 1;fact 1 0 1;fact 1 0 1;fact 2 0 1;fact 2 0 2;" -> 8
            facts(0..7) -> 0
            work "week;" -> 1
            facts(0..7) -> 63 0 1 0 0 0 0 32
            work "week;" -> 1
            facts(0..7) -> 63 0 0 0 0 0 0 32
            work "die 0;" -> 1
            facts(0) -> 63
            """);
        E.edge(11, "FACTS of a LIFE now, as bits (1: the other one).", """
            drawer "life 1 1 1 1;fact 0 0 60;fact 0 1 59;" -> 1
            work "again 14[again 4[week;];];week;week;" -> 58
            facts(0) -> 0
            work "week;" -> 1
            facts(0) -> 2
            work "week;" -> 1
            facts(0) -> 3
            work "week;" -> 1
            facts(0) -> 3
            """);
    }

    private static void wrong() {
        E.lifeBounds(12, NO_LIFE, "wrong(?)");
        E.edge(12, "WRONG of its piece now (NONE: none).", """
            drawer "life 1 1 1 1;life 1 1 1 1;life 1 1 1 1;life 1 1 1 1;has 0 0;has 1 31;has 2 32;" -> 4
            wrong(0..3) -> 0 62 64 -1
            work "week;" -> 1
            wrong(0..3) -> 2 64 64 -1
            work "write 3;die 0;" -> 2
            wrong(0..3) -> -1 64 64 0
            law "0 - 1" -> 1
            wrong(0..3) -> -1 0 0 0
            law "65" -> 1
            wrong(0..3) -> -1 64 64 64
            law "33 - age" -> 1
            wrong(0..3) -> -1 1 0 33
            """);
    }

    private static void would() {
        E.askBounds(13, "for such an age (0 to 200)", "would(?, 0, 1, 0, 0)", 0, 200);
        E.askBounds(13, "years (0 to 200)", "would(0, ?, 1, 0, 0)", 0, 200);
        E.askBounds(13, "worth (1 to 99)", "would(0, 0, ?, 0, 0)", 1, 99);
        E.askBounds(13, "dead (0, 1)", "would(0, 0, 1, ?, 0)", 0, 1);
        E.askBounds(13, "facts (0 to 24)", "would(0, 0, 1, 0, ?)", 0, 24);
        E.edge(13, "WRONG by the LAW for such an age (0 to 200), years (0 to 200), worth (1 to 99), dead (0, 1), facts (0 to 24).", """
            law "age - 150" -> 1
            would(0, 0, 1, 0, 0) -> 0
            would(200, 0, 1, 0, 0) -> 50
            law "years - 150" -> 1
            would(0, 200, 1, 0, 0) -> 50
            law "worth - 50" -> 1
            would(0, 0, 99, 0, 0) -> 49
            law "worth" -> 1
            would(0, 0, 1, 0, 0) -> 1
            law "dead" -> 1
            would(0, 0, 1, 0..1, 0) -> 0 1
            law "facts" -> 1
            would(0, 0, 1, 0, 24) -> 24
            law "age + years * 2 + worth * 3 + dead * 4 + facts * 5" -> 1
            would(1, 1, 1, 1, 1) -> 15
            law "age - 65" -> 1
            would(200, 0, 1, 0, 0) -> 64
            would(65, 0, 1, 0, 0) -> 0
            would(64, 0, 1, 0, 0) -> 0
            would(66, 0, 1, 0, 0) -> 1
            """);
        E.edge(13, "WRONG by the LAW", """
            // no LAW told
            would(0, 0, 1, 0, 0) -> 0
            would(31, 200, 99, 1, 24) -> 62
            would(32, 200, 99, 1, 24) -> 64
            would(33, 200, 99, 1, 24) -> 64
            """);
    }

    private static void loss() {
        E.bounds(14, PARTS, "", "loss(?)", 0, 1, "bad");
        E.askBounds(14, PARTS, "loss(?)", 0, 1);
        E.edge(14, "LOSS: all that was lost, as a fraction. | in least terms", """
            loss() -> 0/1
            drawer "life 1 1 1 1;"*8 + "has 0 0;has 1 0;has 2 0;has 3 0;has 4 0;has 5 0;has 6 0;wrong 1;" -> 8
            loss() -> 0/1
            law "0" -> 1
            work "die 0;" -> 1
            loss() -> 0/1
            law "1" -> 1
            work "die 1;" -> 1
            loss() -> 1/64
            work "die 2;" -> 1
            loss() -> 1/32
            law "2" -> 1
            work "die 3;" -> 1
            loss() -> 1/16
            law "60" -> 1
            work "die 4;" -> 1
            loss() -> 1/1
            law "1" -> 1
            work "die 5;" -> 1
            loss() -> 65/64
            law "64" -> 1
            work "die 6;" -> 1
            loss() -> 129/64
            work "die 7;" -> 1
            loss() -> 449/64
            """);
        E.edge(14, "LOSS: all that was lost, as a fraction.", """
            drawer "life 1 1 99 1;"*8 + "lack 9;" -> 8
            work "die 0;die 1;die 2;die 3;die 4;die 5;die 6;die 7;" -> 8
            loss() -> 7128/1
            undo() -> 0
            loss() -> 0/1
            """);
        E.edge(14, "LOSS: all that was lost, as a fraction.", EVE + "work \"die 0;\" -> 1\nloss() -> 0/1\nundo() -> 1\nwork \"week;die 0;\" -> 2\nloss() -> 2/1\n");
    }

    private static void cost() {
        E.lifeBounds(15, NO_LIFE, "cost(?, 0)");
        E.askBounds(15, PARTS, "cost(0, ?)", 0, 1);
        E.askBounds(15, PARTS, "cost(2, ?)", 0, 1);
        E.edge(15, "COST (0 by 1: dead).", Edges.FED + """
            keeps cost(3, 2) -> nosuch
            keeps cost(-1, -1) -> nosuch
            keeps cost(2) -> 0/1
            // dead, and a wrong part
            keeps cost(2, 2) -> bad
            """);
        E.edge(15, "COST of a LIFE that is alive: what its death now would lose, on the mean. | COST (0 by 1: dead).", """
            drawer "life 1 0 99 1;life 1 64 99 1;life 1 1 1 1;has 1 40;has 2 0;lack 9;wrong 9;" -> 3
            cost(0) -> 891/1
            cost(1) -> 891/1
            cost(2) -> 0/1
            law "1" -> 1
            cost(1) -> 891/64
            cost(2) -> 9/64
            law "63" -> 1
            cost(2) -> 567/64
            law "32" -> 1
            cost(2) -> 9/2
            work "die 0;die 1;die 2;" -> 3
            cost(0..2) -> 0/1
            undo() -> 0
            cost(0..2) -> 891/1 891/2 9/2
            drawer "life 1 1 99 1;life 1 1 99 1;has 1 40;lack 0;wrong 0;" -> 2
            cost(0..1) -> 0/1
            """);
        E.edge(15, "what its death now would lose", EVE + "cost(0) -> 0/1\nwork \"week;\" -> 1\ncost(0) -> 2/1\n");
    }

    /** What changes in the next WEEK is not so now: neither FACTS nor years. */
    private static final String EVE = """
        drawer "life 0 64 64 1;has 0 9;fact 0 0 52;wrong 1;" -> 1
        work "again 10[again 5[week;];];week;" -> 51
        law "facts + years" -> 1
        """;

    private static void risk() {
        E.bounds(16, PARTS, "", "risk(?)", 0, 1, "bad");
        E.askBounds(16, PARTS, "risk(?)", 0, 1);
        E.edge(16, "RISK: D times that, by 64. | RISK of all who are alive together.", """
            risk() -> 0/1
            drawer "life 1 0 99 1;" -> 1
            risk() -> 0/1
            drawer "life 1 64 99 1;"*8 + "lack 9;" -> 8
            risk() -> 7128/1
            work "die 0;die 1;die 2;die 3;die 4;die 5;die 6;" -> 7
            risk() -> 891/1
            work "die 7;" -> 1
            risk() -> 0/1
            drawer "life 1 1 1 1;life 1 63 1 1;has 0 0;has 1 0;wrong 1;" -> 2
            risk() -> 0/1
            law "1" -> 1
            risk() -> 1/64
            work "die 1;" -> 1
            risk() -> 1/4096
            drawer "life 1 63 99 1;has 0 0;wrong 9;" -> 1
            law "63" -> 1
            // 63 times 63 times 891
            risk() -> 3536379/4096
            """);
        E.edge(16, "RISK of all who are alive together.", EVE + "risk() -> 0/1\nahead(1) -> 2/1\nwork \"week;\" -> 1\nrisk() -> 2/1\n");
    }

    private static void saves() {
        E.lifeBounds(17, NO_LIFE, "saves(?, 0)");
        E.askBounds(17, PARTS, "saves(0, ?)", 0, 1);
        E.askBounds(17, PARTS, "saves(2, ?)", 0, 1);
        E.edge(17, NO_LIFE, Edges.FED + """
            keeps saves(3, 2) -> nosuch
            keeps saves(-1, -1) -> nosuch
            keeps saves(2, 2) -> bad
            keeps saves(2) -> 0/1
            """);
        E.edge(17, "by HOURS it takes (0 at least; 0, if it can't be so, HOURS left not asked): as a fraction", """
            drawer "life 1 1 1 9;life 1 64 99 1;life 1 1 1 9;has 2 32;lack 1;wrong 1;half 1;hours 1;" -> 3
            saves(0..2) -> 1/576 99/1 1/576
            new
            drawer "life 1 1 1 9;has 0 32;wrong 1;half 4;" -> 1
            saves(0) -> 1/128
            new
            drawer "life 1 64 9 1;has 0 0;" -> 1
            law "64 - age" -> 1
            // a piece of 0 WEEKS can't be renewed
            saves(0) -> 0/1
            work "week;" -> 1
            // a new one would be more wrong
            saves(0) -> 0/1
            law "7" -> 1
            // just as wrong
            saves(0) -> 0/1
            law "age" -> 1
            saves(0) -> 27/64
            work "renew 0;" -> 1
            saves(0) -> 0/1
            work "week;die 0;" -> 2
            saves(0) -> 0/1
            new
            drawer "life 1 0 9 1;life 1 64 9 1;lack 3;" -> 2
            // who can't die; one who lacks, by a piece that is wrong all the same
            law "64" -> 1
            saves(0..1) -> 0/1 0/1
            law "63" -> 1
            saves(0..1) -> 0/1 27/64
            new
            drawer "life 1 64 9 1;lack 2;" -> 1
            law "64" -> 1
            // a piece that is wrong would cost more than none
            saves(0) -> 0/1
            new
            drawer "life 1 8 9 4;life 1 8 9 4;hours 1;" -> 2
            work "die 1;" -> 1
            told(2) -> 0
            // no HOURS are left: not asked
            saves(0..1) -> 45/32 0/1
            """);
        E.edge(17, "were its piece written or renewed now", EVE + """
            saves(0) -> 0/1
            first() -> -1
            // what is wrong of a new piece, too, is as it is now
            law "age / 60 * 9 + years * 9" -> 1
            saves(0) -> 9/1
            work "week;" -> 1
            saves(0) -> 9/1
            law "facts + years" -> 1
            saves(0) -> 1/1
            """);
    }

    private static void first() {
        E.edge(18, "FIRST (HOURS left not asked); NONE.", """
            keeps first() -> -1
            drawer "life 1 0 9 1;life 1 64 9 1;has 1 0;" -> 2
            keeps first() -> -1
            drawer "life 1 64 9 1;" -> 1
            keeps first() -> 0
            work "die 0;" -> 1
            keeps first() -> -1
            """);
        E.edge(18, "the one of the most SAVES (above 0)", """
            drawer "life 1 1 1 9;hours 1;has 0 1;wrong 1;half 1;" -> 1
            law "age" -> 1
            saves(0) -> 1/36864
            first() -> 0
            law "1" -> 1
            saves(0) -> 0/1
            first() -> -1
            law "2 - age" -> 1
            first() -> -1
            """);
        E.edge(18, "the one of the most SAVES (above 0), of these the least.", """
            drawer "life 1 8 9 1;"*8 -> 8
            first() -> 0
            work "write 0;write 1;write 2;write 3;write 4;write 5;write 6;" -> 7
            first() -> 7
            work "die 7;" -> 1
            first() -> -1
            work "week;" -> 1
            first() -> 0
            new
            drawer "life 1 8 9 3;life 1 8 9 2;life 1 8 9 2;life 1 8 9 9;" -> 4
            first() -> 1
            new
            // 18 by 6 and 3 by 1 are alike; 19 by 6 is more, 17 by 6 less
            drawer "life 1 8 18 6;life 1 8 3 1;" -> 2
            first() -> 0
            drawer "life 1 8 3 1;life 1 8 18 6;" -> 2
            first() -> 0
            drawer "life 1 8 3 1;life 1 8 19 6;" -> 2
            first() -> 1
            drawer "life 1 8 17 6;life 1 8 3 1;" -> 2
            first() -> 1
            """);
        E.edge(18, "(HOURS left not asked)", """
            drawer "life 1 8 9 9;life 1 8 1 1;hours 1;" -> 2
            first() -> 0
            work "die 1;" -> 1
            told(2) -> 0
            first() -> 0
            """);
    }

    private static void lacking() {
        E.edge(19, "LIVES that are alive without a piece, as bits.", """
            // no LIVES, all of them, none of them
            keeps lacking() -> 0
            drawer "life 1 1 1 1;"*8 -> 8
            keeps lacking() -> 255
            drawer "life 1 1 1 1;"*8 + "has 0 0;has 1 0;has 2 0;has 3 0;has 4 0;has 5 0;has 6 0;has 7 40;" -> 8
            keeps lacking() -> 0
            """);
        E.edge(19, "LIVES that are alive without a piece", """
            // who is dead lacks none, by LACKED as by RUN
            drawer "life 1 1 1 1;"*8 -> 8
            work "write 0;die 7;" -> 2
            lacking() -> 126
            work "week;die 0;" -> 2
            lacking() -> 126
            work "die 1;die 2;die 3;die 4;die 5;die 6;" -> 6
            lacking() -> 0
            """);
    }

    private static void signed() {
        E.edge(20, "LIVES in the drawer whose piece is by one who is dead, as bits.", """
            // no LIVES, none of them, all that can be
            keeps signed() -> 0
            drawer "life 1 1 1 1;"*8 + "has 0 0;has 1 0;has 2 0;has 3 0;has 4 0;has 5 0;has 6 0;by 0 7;by 1 7;by 2 7;by 3 7;by 4 7;by 5 7;by 6 7;" -> 8
            keeps signed() -> 0
            work "die 7;" -> 1
            keeps signed() -> 127
            work "die 6;" -> 1
            signed() -> 63
            work "week;renew 0;" -> 2
            signed() -> 63
            """);
        E.edge(20, "LIVES in the drawer whose piece is by one who is dead", """
            // no piece, none by whom it is, one who is alive
            drawer "life 1 1 1 1;"*4 + "has 1 0;has 2 0;by 0 3;by 2 1;" -> 4
            work "die 3;" -> 1
            signed() -> 0
            work "write 0;" -> 1
            signed() -> 1
            undo() -> 1
            signed() -> 0
            """);
    }

    private static void stale() {
        E.bounds(21, "(n 0 to 65)", "", "stale(?)", 0, 65, "bad");
        E.askBounds(21, "(n 0 to 65)", "stale(?)", 0, 65);
        E.edge(21, "LIVES whose piece is wrong by n of 64 or more (n 0 to 65), as bits.", """
            stale(0) -> 0
            drawer "life 1 1 1 1;"*8 + "has 1 0;has 2 1;has 3 31;has 4 32;has 7 40;" -> 8
            stale(0..3) -> 158 156 156 152
            stale(62..65) -> 152 144 144 0
            work "die 7;" -> 1
            stale(0) -> 30
            stale(64..65) -> 16 0
            law "64" -> 1
            stale(64..65) -> 30 0
            law "0" -> 1
            stale(0..1) -> 30 0
            work "write 0;" -> 1
            stale(0..1) -> 31 0
            """);
        E.edge(21, "LIVES whose piece is wrong by n of 64 or more", EVE + "stale(0..1) -> 1 0\nwork \"week;\" -> 1\nstale(0..3) -> 1 1 1 0\n");
    }
}
