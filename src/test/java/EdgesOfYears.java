/**
 * The boundary cases of promises 43 to 48: years by seeds, images, counts. By 64 the seeds draw: 0: 0, 28, 4; 5: 31, 9, 56, 5;
 * 6: 38, 43, 54, 12, 50, 9; 7: 44, 14; 10: 63, 54; -1 and 2,147,483,647: 57, 57, 6; -2,147,483,648: 0, 28, 4.
 */
final class EdgesOfYears {
    private static final String OTHER_WHAT = "IllegalArgumentException: another what (so below).";
    private static Edges E;

    static void tell(Edges edges) {
        E = edges;
        years();
        yearsLate();
        span();
        image();
        restore();
        status();
        count();
    }

    private static void years() {
        E.bounds(43, "so many WEEKS (1 to 60)", "", "years(5, ?, 0)", 1, 60, "bad");
        E.askBounds(43, "so many WEEKS (1 to 60)", "years(5, ?, 0)", 1, 60);
        E.askBounds(43, OTHER_WHAT, "years(5, 1, ?)", 0, 4);
        E.edge(43, "DRAW by 64 below D: he dies, as above", """
            drawer "life 1 0 1 9;" -> 1
            years(0, 60, 0) -> 1
            drawer "life 1 1 1 9;" -> 1
            years(0, 1, 0) -> 0
            drawer "life 1 31 1 9;" -> 1
            years(5, 1, 0) -> 1
            drawer "life 1 32 1 9;" -> 1
            years(5, 1, 0) -> 0
            drawer "life 1 63 1 9;" -> 1
            years(10, 1, 0) -> 1
            drawer "life 1 64 1 9;" -> 1
            years(10, 1, 0) -> 0
            """);
        E.edge(43, "the SEED (32 bits) becomes itself times 1,103,515,245, and 12,345 (it wraps); its bits 16 to 30, what is left of them.", """
            // seeds of any bits: 57, 57, 6 and 0, 28, 4
            drawer "life 1 57 1 9;" -> 1
            years(-1, 1, 0) -> 1
            years(max, 1, 0) -> 1
            years(-1, 2, 0) -> 1
            years(-1, 3, 0) -> 0
            years(max, 3, 0) -> 0
            drawer "life 1 58 1 9;" -> 1
            years(-1, 1, 0) -> 0
            years(max, 1, 0) -> 0
            drawer "life 1 0 1 9;life 1 1 1 9;" -> 2
            // the first draws, too: 28 is the other's
            years(min, 1, 0) -> 2
            years(0, 1, 0) -> 2
            drawer "life 1 0 1 9;life 1 29 1 9;" -> 2
            years(min, 1, 0) -> 1
            drawer "life 1 0 1 9;life 1 28 1 9;" -> 2
            years(min, 1, 0) -> 2
            years(min, 2, 0) -> 2
            """);
        E.edge(43, "for each who is alive, by number", """
            drawer "life 1 10 1 9;life 1 10 1 9;lack 1;" -> 2
            // 31 and 9; then the first alone: 56, 5
            years(5, 1, 0..4) -> 1 1 0 0 1
            years(5, 2, 0..4) -> 1 1 0 0 1
            years(5, 3, 0..4) -> 0 2 0 0 2
            work "die 0;" -> 1
            // the other alone: 31, 9
            years(5, 1, 0..4) -> 1 0 0 0 0
            years(5, 2, 0..4) -> 0 1 0 0 1
            work "die 1;" -> 1
            years(5, 60, 0..4) -> 0
            """);
        E.edge(43, "0 alive then, 1 LACKED in them, 2 RUN, 3 pieces written or renewed, 4 what was lost on the mean, cut.", """
            drawer "life 1 64 1 9;"*8 -> 8
            years(1, 1, 0..4) -> 0 8 0 0 40
            years(1, 60, 0..4) -> 0 8 0 0 40
            work "die 0;die 1;" -> 2
            // only what was lost in them
            years(1, 1, 0..4) -> 0 6 0 0 30
            drawer "life 1 64 1 9;life 1 64 1 9;has 0 0;has 1 0;wrong 1;" -> 2
            law "63" -> 1
            work "die 0;" -> 1
            // 63 of 64: cut
            years(1, 1, 0..4) -> 0 0 1 0 0
            law "64" -> 1
            years(1, 1, 0..4) -> 0 0 1 0 1
            drawer "life 1 64 1 9;"*8 + "has 0 0;has 1 0;has 2 0;has 3 0;has 4 0;has 5 0;has 6 0;has 7 0;wrong 1;" -> 8
            law "7" -> 1
            // 56 of 64: cut
            years(1, 1, 0..4) -> 0 0 8 0 0
            law "8" -> 1
            years(1, 1, 0..4) -> 0 0 8 0 1
            law "15" -> 1
            years(1, 1, 0..4) -> 0 0 8 0 1
            law "16" -> 1
            years(1, 1, 0..4) -> 0 0 8 0 2
            drawer "life 1 64 99 9;"*8 + "lack 9;" -> 8
            years(1, 1, 4) -> 7128
            """);
        E.edge(43, "FIRST is written or renewed, as long as there is one whose HOURS are there (FIRST of those)", """
            drawer "life 1 8 9 4;life 1 8 9 4;life 1 0 9 1;hours 8;" -> 3
            years(6, 1, 3) -> 2
            drawer "life 1 8 9 4;life 1 8 9 4;life 1 0 9 1;hours 7;" -> 3
            years(6, 1, 3) -> 1
            drawer "life 1 8 9 4;life 1 8 9 4;life 1 0 9 1;hours 3;" -> 3
            years(6, 1, 3) -> 0
            // FIRST takes more than there are: the next one
            drawer "life 1 8 99 9;life 1 8 1 8;hours 8;" -> 2
            first() -> 0
            years(6, 1, 3) -> 1
            drawer "life 1 8 99 9;life 1 8 1 8;hours 7;" -> 2
            years(6, 1, 3) -> 0
            // by HOURS that are left in this WEEK
            drawer "life 1 8 9 4;life 1 0 9 5;hours 8;" -> 2
            work "write 1;" -> 1
            years(6, 1, 3) -> 0
            years(6, 2, 3) -> 1
            drawer "life 1 8 9 4;life 1 0 9 4;hours 8;" -> 2
            work "write 1;" -> 1
            years(6, 1, 3) -> 1
            // one that saves as little as can be, by one HOUR and by nine
            drawer "life 1 1 1 1;life 1 1 1 9;has 0 1;has 1 1;wrong 1;half 1;hours 10;" -> 2
            law "age" -> 1
            saves(0..1) -> 1/4096 1/36864
            years(10, 1, 3) -> 2
            // all eight, each WEEK anew
            drawer "life 1 1 9 1;"*8 -> 8
            years(10, 1, 3) -> 8
            """);
        E.edge(43, "Asked, nothing stays changed. | Years by a SEED", Edges.FED + """
            keeps years(5, 60, 4) -> taken
            keeps years(min, 60, 0) -> taken
            keeps years(max, 1, 3) -> taken
            keeps years(-1, 7, 1) -> taken
            """);
    }

    private static void yearsLate() {
        String life = "drawer \"life 1 8 9 1;\" -> 1\n3 times work \"again 10[again 5[week;];];\" -> 50\n";
        // at WEEK 200 the week is REFUSED: the piece grows no older, and there is nothing to renew
        E.edge(43, "then week | 200 at most, else REFUSED", life + "work \"again 12[again 4[week;];];\" -> 48\nyears(6, 3, 3) -> 3\n");
        E.edge(43, "then week | 200 at most, else REFUSED", life + "work \"again 7[again 7[week;];];\" -> 49\nyears(6, 3, 3) -> 2\n");
        E.edge(43, "then week | 200 at most, else REFUSED", life + "work \"again 10[again 5[week;];];\" -> 50\nyears(6, 3, 3) -> 1\n");
        E.edge(43, "then week | 200 at most, else REFUSED", """
            // nor do HOURS come again: the other one is not written
            drawer "life 1 8 9 8;life 1 8 9 8;" -> 2
            years(6, 2, 3) -> 2
            4 times work "again 10[again 5[week;];];" -> 50
            years(6, 2, 3) -> 1
            """);
    }

    private static void span() {
        String noLife = "(IllegalArgumentException: no such LIFE, also for 0 to 2.)";
        E.bounds(44, noLife, "", "span(5, 1, 1, 0, ?)", 0, -1, "bad");
        E.bounds(44, noLife, Edges.FED, "span(5, 1, 1, 0, ?)", 0, 2, "bad");
        E.bounds(44, noLife, Edges.FED, "span(5, 1, 1, 2, ?)", 0, 2, "bad");
        E.bounds(44, noLife, Edges.FULL, "span(5, 1, 1, 3, ?)", 0, 7, "bad");
        E.bounds(44, noLife, Edges.FULL, "span(5, 1, 1, 1, ?)", 0, 7, "bad");
        E.askBounds(44, "Of so many SEEDS (1 to 20; seed, seed and 1, ..)", "span(5, ?, 1, 0, 0)", 1, 20);
        E.askBounds(44, "so many WEEKS (1 to 60)", "span(5, 1, ?, 0, 0)", 1, 60);
        E.askBounds(44, OTHER_WHAT, "span(5, 1, 1, ?, 0)", 0, 3);
        E.edge(44, noLife, Edges.FED + """
            // wrong in all: refused once, and never as NoSuchElementException
            keeps span(5, 0, 0, 4, 3) -> bad
            keeps span(5, 21, 61, -1, -1) -> bad
            status(0..1) -> 0 2
            """);
        E.edge(44, "Of so many SEEDS (1 to 20; seed, seed and 1, ..): 0 the fewest LACKED, 1 the most, 2 all, 3 by how many a LIFE is alive then.", """
            drawer "life 1 32 1 9;life 1 0 1 9;" -> 2
            // 5 draws 31 for the first one, 6 and 7 draw 38 and 44
            span(5, 1, 1, 0..3, 0) -> 1 1 1 0
            span(6, 1, 1, 0..3, 0) -> 0 0 0 1
            span(5, 2, 1, 0..3, 0) -> 0 1 1 1
            span(5, 3, 1, 0..3, 0) -> 0 1 1 2
            span(5, 3, 1, 3, 1) -> 3
            // 0 to 5 draw 0, 6, 12, 19, 25, 31; 6 to 10 draw 38, 44, 50, 56, 63
            span(0, 6, 1, 0..3, 0) -> 1 1 6 0
            span(0, 11, 1, 0..3, 0) -> 0 1 6 5
            drawer "life 1 64 1 9;life 1 64 1 9;" -> 2
            span(5, 20, 1, 0..3, 0) -> 2 2 40 0
            span(5, 20, 60, 0..3, 1) -> 2 2 40 0
            drawer "life 1 64 1 9;"*8 -> 8
            span(5, 20, 60, 0..3, 7) -> 8 8 160 0
            drawer "life 1 0 1 9;" -> 1
            span(5, 20, 60, 0..3, 0) -> 0 0 0 20
            work "die 0;" -> 1
            span(5, 20, 60, 0..3, 0) -> 0 0 0 0
            """);
        E.edge(44, "seed, seed and 1, .. | it wraps", """
            // the next of the most is the least: 57, then 0, 6
            drawer "life 1 1 1 9;" -> 1
            span(max, 1, 1, 0..3, 0) -> 0 0 0 1
            span(max, 2, 1, 0..3, 0) -> 0 1 1 1
            span(min, 1, 1, 0..3, 0) -> 1 1 1 0
            span(-1, 2, 1, 0..3, 0) -> 0 1 1 1
            """);
        E.edge(44, "Asked, nothing stays changed.", Edges.FED + """
            keeps span(5, 20, 60, 2, 0) -> taken
            keeps span(max, 20, 60, 3, 2) -> taken
            """);
    }

    private static void image() {
        E.edge(45, "how many there are; -1: there are 3.", """
            image() -> 1
            image() -> 2
            image() -> 3
            keeps image() -> -1
            keeps image() -> -1
            count(0) -> 3
            restore() -> 2
            image() -> 3
            image() -> -1
            drawer "" -> 0
            count(0) -> 0
            image() -> 1
            """);
        E.edge(45, "how many there are; -1: there are 3.", Edges.FULL + """
            keeps image() -> -1
            count(0) -> 3
            """);
        E.edge(45, "An IMAGE of all but the TAPE, the latest FAULT, the LAW, the PAGE", Edges.MIDWAY + """
            image() -> 3
            law "1" -> 1
            page "5 1;" -> 1
            work "die 0;die 1;week;" -> 3
            law "x" -> fault 1 at 0
            feed "what" -> 20
            restore() -> 2
            told(0..8) -> 3 3 5 2 2 1 0 1 0
            life(0..2, 5) -> 0 0 1
            life(0..2, 6) -> 1 0 -1
            loss() -> 25/1
            would(9, 9, 9, 0, 9) -> 1
            fault() -> 0
            count(0..2) -> 2 20 2
            undo() -> 1
            told(1) -> 2
            life(0..2, 6) -> 0 12 -1
            undo() -> 0
            told(0..8) -> 3 0 6 3 1 0 0 1 0
            """);
        E.edge(45, "An IMAGE of all but the TAPE, the latest FAULT, the LAW, the PAGE", """
            // with all 16 WORKS, and none
            drawer "life 1 1 1 1;" -> 1
            image() -> 1
            16 times work "week;" -> 1
            image() -> 2
            16 times undo() -> taken
            work "die 0;" -> 1
            15 times work "" -> 0
            restore() -> 1
            count(2) -> 16
            work "" -> -20
            undo() -> 15
            told(1) -> 15
            14 times undo() -> taken
            told(1) -> 1
            undo() -> 0
            told(1) -> 0
            undo() -> -1
            16 times work "week;" -> 1
            restore() -> 0
            count(2) -> 0
            undo() -> -1
            told(1) -> 0
            """);
    }

    private static void restore() {
        E.edge(46, "how many are left; -1: there is none.", """
            keeps restore() -> -1
            image() -> 1
            restore() -> 0
            keeps restore() -> -1
            drawer "life 1 1 1 1;" -> 1
            image() -> 1
            drawer "life 2 1 1 1;" -> 1
            keeps restore() -> -1
            life(0, 0) -> 2
            """);
        E.edge(46, "how many are left; -1: there is none.", """
            drawer "life 1 1 1 1;" -> 1
            work "week;renew 0;" -> 1
            keeps restore() -> -1
            told(8) -> 1
            """);
        E.edge(46, "All is as in the latest IMAGE, which is gone", """
            drawer "life 1 1 1 1;" -> 1
            image() -> 1
            work "week;" -> 1
            image() -> 2
            work "week;" -> 1
            image() -> 3
            work "week;die 0;" -> 2
            restore() -> 2
            told(1..3) -> 2 8 1
            count(0..2) -> 2 0 2
            restore() -> 1
            told(1) -> 1
            work "die 0;" -> 1
            image() -> 2
            restore() -> 1
            told(3) -> 0
            restore() -> 0
            told(1..3) -> 0 8 1
            keeps restore() -> -1
            """);
    }

    private static void status() {
        E.edge(47, "How many calls were refused: 0 NoSuchElementException, 1 IllegalArgumentException; NONE for others.", Edges.FED + """
            keeps status(0..1) -> 0 0
            keeps status(-1) -> -1
            keeps status(2) -> -1
            keeps status(min) -> -1
            keeps status(max) -> -1
            told(9) -> bad
            status(0..1) -> 0 1
            life(3, 9) -> nosuch
            status(0..1) -> 1 1
            // what is not refused is not counted: NONE, -1, a FAULT, -20, REFUSED STEPS
            drawer(0) -> 0
            drawer "x" -> fault 1 at 0
            undo() -> -1
            restore() -> -1
            count(3) -> -1
            work "" -> 0
            status(0..1) -> 1 1
            """);
        E.edge(47, "(No IMAGE keeps it.)", """
            drawer "life 1 1 1 1;" -> 1
            told(9) -> bad
            facts(1) -> nosuch
            image() -> 1
            told(-1) -> bad
            facts(-1) -> nosuch
            facts(2) -> nosuch
            work "week;" -> 1
            undo() -> 0
            status(0..1) -> 3 2
            restore() -> 0
            status(0..1) -> 3 2
            drawer "" -> 0
            status(0..1) -> 3 2
            facts(0) -> nosuch
            status(0..1) -> 4 2
            """);
        E.edge(47, "How many calls were refused", """
            200 times facts(0) -> nosuch
            200 times told(9) -> bad
            status(0..1) -> 200 200
            """);
    }

    private static void count() {
        E.edge(48, "NONE for others.", Edges.FED + """
            keeps count(0..2) -> 2 20 2
            keeps count(-1) -> -1
            keeps count(3) -> -1
            keeps count(min) -> -1
            keeps count(max) -> -1
            """);
        E.edge(48, "0 IMAGES, 1 bytes of the TAPE, 2 WORKS that can be undone", """
            count(0..2) -> 0 0 0
            drawer "life 1 1 1 1;" -> 1
            3 times image() -> taken
            count(0) -> 3
            image() -> -1
            count(0) -> 3
            16 times work "" -> 0
            count(2) -> 16
            work "" -> -20
            count(2) -> 16
            feed " "*600 -> 600
            count(1) -> 600
            feed(0, 0, 0, 0, 0) -> -1
            count(0..2) -> 3 600 16
            page(61) -> bad
            count(1) -> 600
            page(0) -> 0
            count(1) -> 0
            undo() -> 15
            count(0..2) -> 3 0 15
            restore() -> 2
            count(0..2) -> 2 0 0
            drawer(0) -> 0
            count(0..2) -> 0 0 0
            """);
    }
}
