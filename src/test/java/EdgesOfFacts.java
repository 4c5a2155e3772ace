/** The boundary cases of promises 31 to 42: facts, pages, and what comes if nothing is done. */
final class EdgesOfFacts {
    private static final String NO_LIFE = "NoSuchElementException: no such LIFE (so below, ahead of others).";
    private static final String OTHER_WHAT = "IllegalArgumentException: another what (so below).";
    private static final String BITS = "IllegalArgumentException: bits of no LIVES (so below).";
    private static final String PARTS = "above (part 0), below (part 1), in least terms (so below).";
    private static Edges E;

    static void tell(Edges edges) {
        E = edges;
        apart();
        twins();
        written();
        whose();
        ahead();
        lives();
        oldest();
        chain();
        due();
        news();
        expects();
        worst();
    }

    /** Rows by which it is that WEEK. */
    private static String at(int week) {
        StringBuilder s = new StringBuilder();
        for (int i = 0; i < week / 50; i++) s.append("work \"again 10[again 5[week;];];\" -> 50\n");
        for (int i = 0; i < week % 50 / 10; i++) s.append("work \"again 10[week;];\" -> 10\n");
        if (week % 10 > 0) s.append("work \"again ").append(week % 10).append("[week;];\" -> ").append(week % 10).append('\n');
        return s.append("told(1) -> ").append(week).append('\n').toString();
    }

    private static void apart() {
        E.bounds(31, BITS, "", "apart(?, 0)", 0, 0, "bad");
        E.bounds(31, BITS, Edges.FED, "apart(?, 0)", 0, 7, "bad");
        E.bounds(31, BITS, Edges.FULL, "apart(?, 0)", 0, 255, "bad");
        E.askBounds(31, OTHER_WHAT, "apart(1, ?)", 0, 1);
        E.edge(31, "the fewest FACTS by which any two of told LIVES (bits) are unlike now | APART: 0 how many FACTS, 1 which (bits); NONE: not by all.", """
            drawer "life 1 1 1 1;"*8 + "fact 1 0 1;fact 2 1 1;fact 3 2 1;fact 4 3 1;fact 5 4 1;fact 6 5 1;fact 7 5 2;" -> 8
            apart(0, 0..1) -> 0 0
            apart(1, 0..1) -> 0 0
            apart(128, 0..1) -> 0 0
            apart(3, 0..1) -> -1 -1
            apart(127, 0..1) -> -1 -1
            work "week;" -> 1
            // each from the first by one FACT of its own: all six
            apart(127, 0..1) -> 6 63
            apart(126, 0..1) -> 5 31
            apart(3, 0..1) -> 1 1
            apart(65, 0..1) -> 1 32
            apart(63, 0..1) -> 5 31
            // the last one is as the first one yet
            apart(129, 0..1) -> -1 -1
            apart(255, 0..1) -> -1 -1
            work "week;" -> 1
            apart(129, 0..1) -> 1 32
            apart(192, 0..1) -> -1 -1
            work "die 0;die 1;" -> 2
            apart(127, 0..1) -> 6 63
            """);
        E.edge(31, "of alike ones the least bits", """
            drawer "life 1 1 1 1;life 1 1 1 1;fact 0 5 1;fact 0 4 1;fact 1 3 1;" -> 2
            work "week;" -> 1
            apart(3, 0..1) -> 1 8
            new
            // eight by three FACTS, told high and low
            drawer "life 1 1 1 1;"*8 + "fact 1 5 1;fact 2 4 1;fact 3 5 1;fact 3 4 1;fact 4 3 1;fact 5 5 1;fact 5 3 1;fact 6 4 1;fact 6 3 1;fact 7 5 1;fact 7 4 1;fact 7 3 1;fact 1 0 1;" -> 8
            work "week;" -> 1
            apart(255, 0..1) -> 3 56
            // four by two: 0, 1, 2, 3 by FACTS 4 and 0, or 4 and 5
            apart(15, 0..1) -> 2 48
            apart(7, 0..1) -> 2 17
            """);
    }

    private static void twins() {
        E.edge(32, "of these the least; NONE.", """
            keeps twins() -> -1
            drawer "life 1 1 1 1;" -> 1
            keeps twins() -> -1
            drawer "life 1 1 1 1;life 1 1 1 1;fact 1 5 1;" -> 2
            keeps twins() -> 1
            // unlike in the last FACT alone
            work "week;" -> 1
            keeps twins() -> -1
            """);
        E.edge(32, "Two LIVES (the lesser first) that are alike now in all FACTS: 10 times the one, and the other one", """
            // the last two, dead or not
            drawer "life 1 1 1 1;"*8 + "fact 1 0 1;fact 2 1 1;fact 3 0 1;fact 3 1 1;fact 4 2 1;fact 5 0 1;fact 5 2 1;fact 6 1 1;fact 6 2 1;fact 7 1 1;fact 7 2 1;fact 7 5 2;" -> 8
            twins() -> 1
            work "week;" -> 1
            twins() -> 67
            work "die 6;" -> 1
            twins() -> 67
            work "week;" -> 1
            twins() -> -1
            new
            // alike again, by the same twice
            drawer "life 1 1 1 1;life 1 1 1 1;fact 1 5 1;fact 0 5 2;fact 0 3 2;fact 0 3 2;" -> 2
            work "week;" -> 1
            twins() -> -1
            work "week;" -> 1
            twins() -> 1
            """);
        E.edge(32, "of these the least", """
            // 0 and 7, 1 and 2: the least is 7
            drawer "life 1 1 1 1;"*8 + "fact 1 0 1;fact 2 0 1;fact 3 1 1;fact 4 2 1;fact 5 3 1;fact 6 4 1;" -> 8
            work "week;" -> 1
            twins() -> 7
            new
            // 1 and 6, 2 and 3
            drawer "life 1 1 1 1;"*7 + "fact 1 0 1;fact 6 0 1;fact 2 1 1;fact 3 1 1;fact 4 2 1;fact 5 3 1;" -> 7
            work "week;" -> 1
            twins() -> 16
            """);
    }

    private static void written() {
        E.lifeBounds(33, NO_LIFE, "written(?)");
        E.edge(33, "WRITTEN: WEEKS (0 to 60) at whose end the FACTS of a LIFE were as the PAGE says. | WRITTEN, as bits (WEEK 0 the lowest).", """
            drawer "life 1 1 1 1;life 1 1 1 1;life 1 1 1 1;fact 0 0 1;fact 1 5 60;fact 2 2 1;fact 2 2 1;fact 2 3 59;" -> 3
            // no PAGE
            written(0..2) -> 2305843009213693951
            page "0 1;" -> 1
            written(0..2) -> 2305843009213693950 0 0
            page "0 0;" -> 1
            written(0..2) -> 1 2305843009213693951 2305843009213693951
            page "5 1;" -> 1
            written(0..2) -> 0 1152921504606846976 0
            page "5 0;" -> 1
            written(0..2) -> 2305843009213693951 1152921504606846975 2305843009213693951
            page "2 1;" -> 1
            written(0..2) -> 0
            page "3 1;2 0;" -> 2
            written(2) -> 1729382256910270464
            // whichever WEEK it is, alive or dead
            work "again 14[again 5[week;];];die 2;" -> 71
            written(2) -> 1729382256910270464
            page "0 0;1 0;2 0;3 0;4 0;5 0;" -> 6
            written(0..2) -> 1 1152921504606846975 576460752303423487
            page "" -> 0
            written(0..2) -> 2305843009213693951
            """);
    }

    private static void whose() {
        E.edge(34, "LIVES of which there is such a WEEK, as bits.", """
            // no LIVES, no PAGE
            keeps whose() -> 0
            page "0 1;" -> 1
            keeps whose() -> 0
            drawer "life 1 1 1 1;"*8 -> 8
            keeps whose() -> 255
            page "0 1;" -> 1
            keeps whose() -> 0
            page "" -> 0
            keeps whose() -> 255
            """);
        E.edge(34, "LIVES of which there is such a WEEK, as bits. | WEEKS (0 to 60)", """
            // in WEEK 60, from WEEK 1 on, in one WEEK alone, in none since it is the same twice
            drawer "life 1 1 1 1;"*8 + "fact 0 0 60;fact 7 5 1;fact 3 0 7;fact 3 0 8;fact 4 0 7;fact 4 0 7;" -> 8
            page "0 1;" -> 1
            whose() -> 9
            page "5 1;" -> 1
            whose() -> 128
            page "0 0;5 0;" -> 2
            whose() -> 255
            page "0 1;5 1;" -> 2
            whose() -> 0
            work "die 0;die 7;" -> 2
            page "0 1;" -> 1
            whose() -> 9
            """);
    }

    private static void ahead() {
        String words = "In so many WEEKS (0 to 60, to WEEK 200 at most), nobody dying, nothing written: RISK of all who are alive.";
        String one = "drawer \"life 1 64 64 1;life 1 1 1 1;has 0 0;wrong 1;\" -> 2\n";
        E.bounds(35, words, "", "ahead(?, 0)", 0, 60, "bad");
        E.bounds(35, words, Edges.FED, "ahead(?, 0)", 0, 60, "bad");
        E.bounds(35, words, one + at(140), "ahead(?, 0)", 0, 60, "bad");
        E.bounds(35, words, one + at(141), "ahead(?, 0)", 0, 59, "bad");
        E.bounds(35, words, one + at(199), "ahead(?, 0)", 0, 1, "bad");
        E.bounds(35, words, one + at(200), "ahead(?, 0)", 0, 0, "bad");
        E.bounds(35, words, Edges.FULL, "ahead(?, 0)", 0, 0, "bad");
        E.askBounds(35, PARTS, "ahead(0, ?)", 0, 1);
        E.edge(35, words, "drawer \"life 1 64 64 1;has 0 0;wrong 1;fact 0 0 1;fact 0 0 60;\" -> 1\n" + """
            law "age" -> 1
            ahead(0) -> 0/1
            ahead(1) -> 1/1
            ahead(60) -> 60/1
            law "facts" -> 1
            ahead(0..2) -> 0/1 1/1 1/1
            ahead(59..60) -> 1/1 2/1
            law "years" -> 1
            ahead(51..52) -> 1/1 2/1
            told(1) -> 0
            life(0, 6) -> 0
            """);
        E.edge(35, words, "drawer \"life 1 64 64 1;has 0 0;wrong 1;\" -> 1\n" + at(150) + """
            law "age - 149" -> 1
            ahead(0) -> 1/1
            ahead(50) -> 51/1
            ahead(51, 0) -> bad
            ahead(51, 2) -> bad
            work "die 0;" -> 1
            ahead(0) -> 0/1
            ahead(50) -> 0/1
            ahead(51, 1) -> bad
            """);
        E.edge(35, words, """
            // no piece: as much in any WEEK
            drawer "life 1 32 7 1;life 1 64 9 1;" -> 2
            ahead(0) -> 125/2
            ahead(60) -> 125/2
            """);
    }

    private static void lives() {
        E.lifeBounds(36, NO_LIFE, "lives(?, 0, 0)");
        E.askBounds(36, "(0 to 8)", "lives(0, ?, 0)", 0, 8);
        E.askBounds(36, PARTS, "lives(0, 0, ?)", 0, 1);
        E.edge(36, NO_LIFE, Edges.FED + """
            keeps lives(3, 9, 2) -> nosuch
            keeps lives(-1, -1, -1) -> nosuch
            keeps lives(2, 9, 0) -> bad
            keeps lives(2, 0, 2) -> bad
            """);
        E.edge(36, "How likely a LIFE is alive still in so many WEEKS (0 to 8).", """
            drawer "life 1 0 1 1;life 1 64 1 1;life 1 1 1 1;life 1 63 1 1;life 1 32 1 1;" -> 5
            lives(0..4, 0) -> 1/1
            lives(0..4, 1) -> 1/1 0/1 63/64 1/64 1/2
            lives(0..4, 8) -> 1/1 0/1 248155780267521/281474976710656 1/281474976710656 1/256
            lives(0..4, 7) -> 1/1 0/1 3938980639167/4398046511104 1/4398046511104 1/128
            work "die 0;die 1;die 2;" -> 3
            lives(0..4, 0) -> 0/1 0/1 0/1 1/1 1/1
            lives(0..4, 8) -> 0/1 0/1 0/1 1/281474976710656 1/256
            """);
        E.edge(36, "How likely a LIFE is alive still in so many WEEKS (0 to 8).",
            "drawer \"life 1 32 1 1;\" -> 1\n" + at(200) + "lives(0, 8) -> 1/256\nlives(0, 0) -> 1/1\n");
    }

    private static void oldest() {
        E.edge(37, "NONE: there is no piece.", """
            keeps oldest() -> -1
            drawer "life 1 1 1 1;"*8 -> 8
            keeps oldest() -> -1
            work "write 7;" -> 1
            keeps oldest() -> 7
            work "write 3;" -> 1
            oldest() -> 3
            work "week;renew 3;" -> 2
            oldest() -> 7
            work "die 7;" -> 1
            oldest() -> 3
            work "die 3;" -> 1
            oldest() -> -1
            """);
        E.edge(37, "The LIFE with the oldest piece, of these the first", """
            drawer "life 1 1 1 1;"*8 + "has 0 0;has 1 0;has 7 0;" -> 8
            oldest() -> 0
            drawer "life 1 1 1 1;"*8 + "has 0 1;has 7 0;" -> 8
            oldest() -> 0
            drawer "life 1 1 1 1;"*8 + "has 2 40;has 5 40;has 6 39;has 0 0;" -> 8
            oldest() -> 2
            work "die 2;" -> 1
            oldest() -> 5
            work "renew 5;" -> 1
            oldest() -> 6
            """);
    }

    private static void chain() {
        E.lifeBounds(38, NO_LIFE, "chain(?, 0)");
        E.askBounds(38, OTHER_WHAT, "chain(0, ?)", 0, 1);
        E.edge(38, NO_LIFE, Edges.FED + """
            keeps chain(3, 2) -> nosuch
            keeps chain(-1, -1) -> nosuch
            keeps chain(2, 2) -> bad
            """);
        E.edge(38, "0 how many unlike ones, with itself, till there is none or one comes again; 1 the last of these.", """
            drawer "life 1 1 1 1;"*8 + "by 0 1;by 1 2;by 2 3;by 3 4;by 4 5;by 5 6;by 6 7;" -> 8
            chain(0..7, 0) -> 8 7 6 5 4 3 2 1
            chain(0..7, 1) -> 7
            drawer "life 1 1 1 1;"*8 + "by 0 1;by 1 2;by 2 3;by 3 4;by 4 5;by 5 6;by 6 7;by 7 0;" -> 8
            chain(0..7, 0) -> 8
            chain(0..7, 1) -> 7 0 1 2 3 4 5 6
            // one comes again that is not the first
            drawer "life 1 1 1 1;"*8 + "by 0 1;by 1 2;by 2 1;by 5 4;by 4 5;" -> 8
            chain(0..5, 0) -> 3 2 2 1 2 2
            chain(0..5, 1) -> 2 2 1 3 5 4
            // as told, dead or not, with a piece or without
            work "write 0;die 1;die 0;" -> 3
            chain(0..5, 0) -> 3 2 2 1 2 2
            chain(0..5, 1) -> 2 2 1 3 5 4
            drawer "life 1 1 1 1;" -> 1
            chain(0, 0..1) -> 1 0
            """);
    }

    private static void due() {
        String words = "In how many WEEKS (0: now; 60 more, to WEEK 200 at most), nothing being done, its piece is wrong by n of 64 or more first"
            + " (n 0 to 65); NONE: in none, or no piece.";
        E.lifeBounds(39, NO_LIFE, "due(?, 0)");
        E.askBounds(39, "(n 0 to 65)", "due(0, ?)", 0, 65);
        E.edge(39, NO_LIFE, Edges.FED + """
            keeps due(3, 66) -> nosuch
            keeps due(-1, -1) -> nosuch
            // no piece, and a wrong n
            keeps due(2, 66) -> bad
            keeps due(2, 0) -> -1
            """);
        E.edge(39, words, """
            drawer "life 1 1 1 1;life 1 1 1 1;has 0 0;fact 0 0 1;fact 0 0 60;" -> 2
            due(0, 0..3) -> 0 1 1 2
            due(0, 63..65) -> 32 32 -1
            due(1, 0) -> -1
            due(1, 65) -> -1
            law "age" -> 1
            due(0, 60..61) -> 60 -1
            law "facts" -> 1
            due(0, 0..3) -> 0 1 60 -1
            law "years" -> 1
            due(0, 1..3) -> 0 52 -1
            law "64" -> 1
            due(0, 64..65) -> 0 -1
            // wrong now, then no more: first is now
            law "1 - age" -> 1
            due(0, 1) -> 0
            work "week;" -> 1
            due(0, 1) -> -1
            work "die 0;" -> 1
            due(0, 0) -> -1
            """);
        String one = "drawer \"life 1 1 1 1;has 0 0;\" -> 1\n";
        E.edge(39, words, one + at(140) + "law \"age\" -> 1\nwork \"renew 0;\" -> 1\ndue(0, 0) -> 0\ndue(0, 59..61) -> 59 60 -1\n");
        E.edge(39, words, one + at(141) + "law \"age\" -> 1\nwork \"renew 0;\" -> 1\ndue(0, 0) -> 0\ndue(0, 59..61) -> 59 -1 -1\n");
        E.edge(39, words, one + at(199) + "law \"age\" -> 1\nwork \"renew 0;\" -> 1\ndue(0, 0..2) -> 0 1 -1\n");
        E.edge(39, words, one + at(200) + "law \"age\" -> 1\nwork \"renew 0;\" -> 1\ndue(0, 0..2) -> 0 -1 -1\n");
    }

    private static void news() {
        E.lifeBounds(40, NO_LIFE, "news(?)");
        E.edge(40, "The next WEEK, from the next one on, in which a FACT of a LIFE changes (each told change, also if two are one); NONE.", """
            drawer "life 1 1 1 1;life 1 1 1 1;life 1 1 1 1;fact 0 5 60;fact 0 0 1;fact 0 1 2;fact 0 1 2;fact 1 0 60;" -> 3
            news(0..2) -> 1 60 -1
            work "week;" -> 1
            news(0..2) -> 2 60 -1
            work "week;die 0;" -> 2
            news(0..2) -> 60 60 -1
            work "again 19[again 3[week;];];" -> 57
            told(1) -> 59
            news(0..2) -> 60 60 -1
            work "week;" -> 1
            news(0..2) -> -1 -1 -1
            work "again 14[again 10[week;];];" -> 140
            told(1) -> 200
            news(0..2) -> -1 -1 -1
            """);
    }

    private static void expects() {
        E.lifeBounds(41, NO_LIFE, "expects(?, 1, 0)");
        E.askBounds(41, "in the next n WEEKS (0 to 7)", "expects(0, ?, 0)", 0, 7);
        E.askBounds(41, PARTS, "expects(0, 0, ?)", 0, 1);
        E.edge(41, NO_LIFE, Edges.FED + """
            keeps expects(3, 8, 2) -> nosuch
            keeps expects(-1, -1, -1) -> nosuch
            keeps expects(2, 8, 0) -> bad
            keeps expects(2, 7, 2) -> bad
            keeps expects(2, 7) -> 0/1
            """);
        E.edge(41, "What a LIFE loses on the mean in the next n WEEKS (0 to 7), this one first, nothing being written, as in BEST", """
            drawer "life 1 32 1 1;life 1 64 99 1;life 1 0 99 1;life 1 63 99 1;lack 1;" -> 4
            expects(0, 0..7) -> 0/1 1/2 3/4 7/8 15/16 31/32 63/64 127/128
            expects(1, 0..7) -> 0/1 99/1 99/1 99/1 99/1 99/1 99/1 99/1
            expects(2, 0..7) -> 0/1
            // 99 times 2 to the 42nd less 1, by 2 to the 42nd
            expects(3, 7) -> 435406604599197/4398046511104
            work "die 0;" -> 1
            expects(0, 0..7) -> 0/1
            new
            drawer "life 1 32 64 1;life 1 64 1 1;has 0 0;by 0 1;fact 0 0 1;fact 0 0 7;wrong 1;" -> 2
            law "age" -> 1
            // ages 0 to 6, by a half of those who are left each
            expects(0, 0..7) -> 0/1 0/1 1/4 1/2 11/16 13/16 57/64 15/16
            law "facts * 64" -> 1
            expects(0, 1..2) -> 0/1 16/1
            law "dead * 64" -> 1
            expects(0, 7) -> 0/1
            """);
        E.edge(41, "(also beyond WEEK 200); 0 by 1: dead.",
            "drawer \"life 1 32 8 1;has 0 0;wrong 1;\" -> 1\n" + at(200) + """
            law "(age - 200) * 8" -> 1
            expects(0, 0..7) -> 0/1 0/1 1/4 1/2 11/16 13/16 57/64 15/16
            work "die 0;" -> 1
            expects(0, 7) -> 0/1
            """);
    }

    private static void worst() {
        String words = "In how many WEEKS (0 to 60, to WEEK 200 at most), nobody dying, nothing written, RISK of all who are alive is most, of these the first.";
        String one = "drawer \"life 1 64 64 1;has 0 0;\" -> 1\n";
        E.edge(42, words, """
            keeps worst() -> 0
            drawer "life 1 64 9 1;life 1 0 9 1;has 1 0;" -> 2
            // always alike
            keeps worst() -> 0
            work "die 0;" -> 1
            worst() -> 0
            drawer "life 1 64 64 1;has 0 0;fact 0 0 1;fact 0 0 60;" -> 1
            worst() -> 32
            law "age" -> 1
            worst() -> 60
            law "age / 60" -> 1
            worst() -> 60
            law "age / 61" -> 1
            worst() -> 0
            law "facts" -> 1
            worst() -> 60
            law "64 - age" -> 1
            worst() -> 0
            law "most[0, 1 - age] + most[0, 1 - (59 - age) * (59 - age)]" -> 1
            worst() -> 0
            law "years" -> 1
            worst() -> 52
            work "die 0;" -> 1
            worst() -> 0
            """);
        E.edge(42, words, one + at(140) + "law \"age - 140\" -> 1\nworst() -> 60\n");
        E.edge(42, words, one + at(141) + "law \"age - 140\" -> 1\nworst() -> 59\n");
        E.edge(42, words, one + at(199) + "law \"age - 140\" -> 1\nworst() -> 1\n");
        E.edge(42, words, one + at(200) + "law \"age - 140\" -> 1\nworst() -> 0\n");
    }
}
