/** The boundary cases of promises 1 to 8: a new object, the tape, the four texts, their faults, undo. */
final class EdgesOfTexts {
    private static Edges E;

    static void tell(Edges edges) {
        E = edges;
        newObject();
        calls();
        feed();
        drawerBytes();
        drawerLives();
        drawerClauses();
        drawerRules();
        drawerTooMany();
        drawerSigns();
        drawerAnew();
        lawBytes();
        lawNumbers();
        lawUnits();
        lawOpen();
        workBytes();
        workReading();
        workHours();
        workDeaths();
        workWeeks();
        workBegun();
        workSixteen();
        page();
        fault();
        undo();
    }

    private static void newObject() {
        String none = """
            told(0..8) -> 0 0 8 0 0 0 0 0 0
            count(0..2) -> 0 0 0
            fault() -> -1
            first() -> -1
            lacking() -> 0
            signed() -> 0
            stale(0) -> 0
            oldest() -> -1
            twins() -> -1
            whose() -> 0
            worst() -> 0
            loss() -> 0/1
            risk() -> 0/1
            best(1..3) -> 0/1
            bestIn(1, 0) -> 0
            bestIn(2, 0..1) -> 0
            bestIn(3, 0..2) -> 0
            ahead(0) -> 0/1
            ahead(60) -> 0/1
            room(0, 0) -> 0
            room(0, 200) -> 0
            apart(0, 0..1) -> 0
            years(1, 1, 0..4) -> 0
            years(1, 60, 0..4) -> 0
            would(7, 0, 1, 0, 0) -> 14
            undo() -> -1
            restore() -> -1
            """;
        E.edge(1, "A DRAWER without CLAUSES.", none);
        E.edge(1, "A DRAWER without CLAUSES.", "drawer \"\" -> 0\n" + none);
        E.edge(1, "A DRAWER without CLAUSES.", """
            life(0, 0) -> nosuch
            facts(0) -> nosuch
            wrong(0) -> nosuch
            cost(0, 0) -> nosuch
            saves(0, 0) -> nosuch
            often(0, 0) -> nosuch
            yearly(0, 0, 1, 0) -> nosuch
            lines(0, 0, 0) -> nosuch
            written(0) -> nosuch
            lives(0, 0, 0) -> nosuch
            chain(0, 0) -> nosuch
            due(0, 0) -> nosuch
            news(0) -> nosuch
            expects(0, 0, 0) -> nosuch
            span(0, 1, 1, 0, 0) -> bad
            room(1, 0) -> bad
            apart(1, 0) -> bad
            status(0..1) -> 14 3
            """);
        E.edge(1, "A DRAWER without CLAUSES.", """
            work "die 0;" -> fault 2 at 4
            work "write 0;" -> fault 2 at 6
            work "renew 0;" -> fault 2 at 6
            work "week;" -> 1
            told(1) -> 1
            image() -> 1
            undo() -> 0
            told(1) -> 0
            restore() -> 0
            told(1) -> 1
            """);
    }

    /** 510 calls, and status asked twice. */
    private static void calls() {
        E.edge(1, "An object is used for at most 512 calls after it has been made", """
            drawer "life 1 1 1 1;" -> 1
            253 times told(0) -> 1
            253 times facts(1) -> nosuch
            new
            169 times feed(538976288, 538976288, 538976288, 538976288, 538976288) -> taken
            170 times drawer(601) -> bad
            169 times fault() -> -1
            drawer(600) -> 0
            fault() -> -1
            new
            // what looks far, again and again
            drawer "life 1 0 99 9;"*8 + "fact 7 5 60;"*24 + "has 7 0;hours 12;half 4;" -> 8
            law "1" + "+1*age"*24 -> 1
            100 times span(5, 20, 60, 3, 7) -> 20
            100 times years(5, 60, 0) -> 8
            50 times best(3, 1) -> 1
            50 times worst() -> 0
            50 times due(7, 65) -> -1
            100 times apart(255, 1) -> -1
            """);
    }

    private static void feed() {
        E.edge(2, "Twenty bytes come on the TAPE, of each number the highest first", """
            // "life 1 2 3 4; half 3"
            feed(1818846821, 540090418, 540221492, 991979617, 1818632243) -> 20
            drawer(13) -> 1
            life(0, 0..3) -> 1 2 3 4
            new
            // the same bytes, each number's lowest first
            feed(1701210476, 840970528, 874525472, 1634214971, 857761388) -> 20
            drawer(13) -> -9
            fault() -> 0
            new
            // bytes of 255 and of 128: no blanks, no digits
            feed(-1, -1, -1, -1, -1) -> 20
            drawer(1) -> -9
            feed(-2139062144, 0, 0, 0, 0) -> 20
            drawer(1) -> -9
            new
            // a sign at the last of twenty bytes, and at the first of the next
            drawer " "*19 + "x" -> fault 1 at 19
            drawer " "*20 + "x" -> fault 1 at 20
            drawer " "*12 + "half 4;" + "x" -> fault 1 at 19
            drawer " "*13 + "half 4;" + "x" -> fault 1 at 20
            """);
        E.edge(2, "how many there are", """
            count(1) -> 0
            feed(0, 0, 0, 0, 0) -> 20
            count(1) -> 20
            feed(min, max, min, max, -1) -> 40
            count(1) -> 40
            law(40) -> -9
            feed(0, 0, 0, 0, 0) -> 20
            """);
        E.edge(2, "NONE, doing nothing, if there would be more than 600", """
            feed "life 7 7 7 7;" + " "*567 -> 580
            feed(538976288, 538976288, 538976288, 538976288, 538976288) -> 600
            keeps feed(0, 0, 0, 0, 0) -> -1
            keeps feed(-1, -1, -1, -1, -1) -> -1
            count(1) -> 600
            drawer(600) -> 1
            life(0, 0..3) -> 7
            count(1) -> 0
            feed(0, 0, 0, 0, 0) -> 20
            """);
        E.edge(2, "NONE, doing nothing, if there would be more than 600", Edges.FED + """
            feed " "*580 -> 600
            keeps feed(0, 0, 0, 0, 0) -> -1
            keeps feed(max, max, max, max, max) -> -1
            """);
    }

    private static void drawerBytes() {
        String words = "IllegalArgumentException: n is not 0 to the TAPE's bytes (it stays).";
        E.bounds(3, words, "", "drawer(?)", 0, 0, "bad");
        E.bounds(3, words, Edges.FED, "drawer(?)", 0, 20, "bad");
        E.bounds(3, words, Edges.FULL, "drawer(?)", 0, 0, "bad");
        E.bounds(3, words, "feed \"life 1 1 1 1;\" + \" \"*587 -> 600", "drawer(?)", 0, 600, "bad");
        E.edge(3, "The first n bytes of the TAPE (empty then) are the DRAWER", """
            feed "hours 1;hours 2;hours 3;" -> 40
            drawer(8) -> 0
            told(2) -> 1
            count(1) -> 0
            feed "hours 1;hours 2;hours 3;" -> 40
            drawer(16) -> 0
            told(2) -> 2
            feed "hours 12;" -> 20
            // a shorter text than the bytes: the number ends with it, and what stands behind is not read
            drawer(7) -> -9
            fault() -> 7
            told(2) -> 2
            count(1) -> 0
            drawer(0) -> 0
            told(2) -> 8
            """);
        E.edge(3, "A DRAWER is a text of up to 600 bytes", """
            drawer "life 1 1 1 9;half " + "0"*580 + "3;" -> 1
            life(0, 4) -> 3
            drawer "life 1 1 1 9;half " + "0"*580 + "3x" -> fault 1 at 599
            drawer "life 1 1 1 9;half " + "0"*581 + "3" -> fault 1 at 600
            drawer "life 1 1 1 9;half " + "9"*581 + ";" -> fault 2 at 18
            drawer " "*600 -> 0
            """);
    }

    private static void drawerLives() {
        E.edge(3, "AGE A, 0 to 110 years", """
            drawer "life 0 1 1 1;life 110 1 1 1;" -> 2
            life(0..1, 0) -> 0 110
            keeps drawer "life 111 1 1 1;" -> fault 2 at 5
            drawer "life 99999999999 1 1 1;" -> fault 2 at 5
            // 2 to the 32nd and 1, 2 to the 64th and 1: digits, as many as stand there
            drawer "life 4294967297 1 1 1;" -> fault 2 at 5
            drawer "life 18446744073709551617 1 1 1;" -> fault 2 at 5
            drawer "life -1 1 1 1;" -> fault 1 at 5
            """);
        E.edge(3, "dies by D of 64 in each WEEK, 0 to 64", """
            drawer "life 1 0 1 1;life 1 64 1 1;" -> 2
            life(0..1, 1) -> 0 64
            keeps drawer "life 1 65 1 1;" -> fault 2 at 7
            drawer "life 1 -1 1 1;" -> fault 1 at 7
            """);
        E.edge(3, "worth W lines, 1 to 99", """
            drawer "life 1 1 1 1;life 1 1 99 1;" -> 2
            life(0..1, 2) -> 1 99
            keeps drawer "life 1 1 0 1;" -> fault 2 at 9
            keeps drawer "life 1 1 100 1;" -> fault 2 at 9
            drawer "life 1 1 000 1;" -> fault 2 at 9
            drawer "life 1 1 0099 1;" -> 1
            """);
        E.edge(3, "a piece takes H HOURS, 1 to 9", """
            drawer "life 1 1 1 1;life 1 1 1 9;" -> 2
            life(0..1, 3) -> 1 9
            keeps drawer "life 1 1 1 0;" -> fault 2 at 11
            keeps drawer "life 1 1 1 10;" -> fault 2 at 11
            """);
        E.edge(3, "LIVES, numbered from 0 on, 8 at most", """
            drawer "life 10 1 1 1;life 11 1 1 1;life 12 1 1 1;life 13 1 1 1;life 14 1 1 1;life 15 1 1 1;life 16 1 1 1;life 17 1 1 1;" -> 8
            life(0..7, 0) -> 10 11 12 13 14 15 16 17
            life(8, 0) -> nosuch
            life(-1, 0) -> nosuch
            keeps drawer "life 1 1 1 1;"*9 -> fault 3 at 104
            drawer "life 1 1 1 1;"*7 -> 7
            life(7, 0) -> nosuch
            life(6, 0) -> 1
            """);
    }

    private static void drawerClauses() {
        E.edge(3, "there is a piece of LIFE I, G WEEKS old, 0 to 40; the last counts", """
            drawer "life 1 1 1 1;life 1 1 1 1;life 1 1 1 1;has 0 0;has 1 40;" -> 3
            life(0..2, 6) -> 0 40 -1
            keeps drawer "life 1 1 1 1;has 0 41;" -> fault 2 at 19
            drawer "life 1 1 1 1;has 0 40;has 0 7;" -> 1
            life(0, 6) -> 7
            drawer "life 1 1 1 1;has 0 7;has 0 0;" -> 1
            life(0, 6) -> 0
            """);
        E.edge(3, "by LIFE J, who is not I; the last counts | J as I: at it", """
            drawer "life 1 1 1 1;"*8 + "by 0 7;by 7 0;by 3 4;by 3 5;" -> 8
            life(0..7, 7) -> 7 -1 -1 5 -1 -1 -1 0
            keeps drawer "life 1 1 1 1;by 0 0;" -> fault 2 at 18
            drawer "life 1 1 1 1;"*8 + "by 7 7;" -> fault 2 at 109
            drawer "life 1 1 1 1;"*8 + "by 7  007;" -> fault 2 at 110
            // from the left: I is none such, ahead of J as I
            drawer "life 1 1 1 1;by 1 1;" -> fault 2 at 16
            """);
        E.edge(3, "I, J: told ahead", """
            keeps drawer "has 0 1;" -> fault 2 at 4
            drawer "has 0 1;life 1 1 1 1;" -> fault 2 at 4
            drawer "life 1 1 1 1;has 1 1;" -> fault 2 at 17
            drawer "life 1 1 1 1;"*8 + "has 8 1;" -> fault 2 at 108
            drawer "life 1 1 1 1;"*8 + "has 7 1;" -> 8
            drawer "by 0 1;" -> fault 2 at 3
            drawer "life 1 1 1 1;by 0 1;life 1 1 1 1;" -> fault 2 at 18
            drawer "life 1 1 1 1;by 1 0;life 1 1 1 1;" -> fault 2 at 16
            drawer "life 1 1 1 1;life 1 1 1 1;by 1 0;by 0 1;" -> 2
            drawer "life 1 1 1 1;life 1 1 1 1;by 1 2;" -> fault 2 at 31
            drawer "fact 0 0 1;" -> fault 2 at 5
            drawer "life 1 1 1 1;fact 1 0 1;life 1 1 1 1;" -> fault 2 at 18
            drawer "life 1 1 1 1;fact 0 0 1;life 1 1 1 1;fact 1 0 1;" -> 2
            """);
        E.edge(3, "FACT K, 0 to 5, of LIFE I", """
            drawer "life 1 1 1 1;fact 0 0 1;fact 0 5 1;" -> 1
            work "week;" -> 1
            facts(0) -> 33
            keeps drawer "life 1 1 1 1;fact 0 6 1;" -> fault 2 at 20
            """);
        E.edge(3, "becomes the other one in WEEK X, 1 to 60", """
            drawer "life 1 1 1 1;fact 0 0 1;fact 0 1 60;" -> 1
            facts(0) -> 0
            work "week;" -> 1
            facts(0) -> 1
            2 times work "again 19[week;];" -> 19
            work "again 20[week;];" -> 20
            told(1) -> 59
            facts(0) -> 1
            work "week;" -> 1
            facts(0) -> 3
            keeps drawer "life 1 1 1 1;fact 0 0 0;" -> fault 2 at 22
            keeps drawer "life 1 1 1 1;fact 0 0 61;" -> fault 2 at 22
            """);
        E.edge(3, "24 at most; the same twice: twice", """
            drawer "life 1 1 1 1;has 0 0;" + "fact 0 0 1;"*24 -> 1
            law "facts" -> 1
            work "week;" -> 1
            facts(0) -> 0
            wrong(0) -> 24
            drawer "life 1 1 1 1;has 0 0;" + "fact 0 0 1;"*23 -> 1
            law "facts" -> 1
            work "week;" -> 1
            facts(0) -> 1
            wrong(0) -> 23
            drawer "life 1 1 1 1;life 1 1 1 1;has 0 0;has 1 0;" + "fact 0 0 1;"*23 + "fact 1 5 2;" -> 2
            news(0..1) -> 1 2
            work "week;week;" -> 2
            facts(0..1) -> 1 32
            keeps drawer "life 1 1 1 1;" + "fact 0 0 1;"*25 -> fault 3 at 277
            drawer "life 1 1 1 1;" + "fact 0 0 1;"*24 + "  fact 9 9 99;" -> fault 3 at 279
            drawer "life 1 1 1 1;" + "fact 0 0 1;"*24 + "facts 0 0 1;" -> fault 1 at 277
            drawer "life 1 1 1 1;" + "fact 0 0 1;"*24 + "fact" -> fault 3 at 277
            """);
    }

    private static void drawerRules() {
        E.edge(3, "a WEEK, 1 to 12; 8 without | of the same the last counts", """
            told(2) -> 8
            drawer "hours 1;" -> 0
            told(2) -> 1
            drawer "hours 12;" -> 0
            told(2) -> 12
            drawer "hours 12;hours 3;" -> 0
            told(2) -> 3
            drawer "life 1 1 1 1;" -> 1
            told(2) -> 8
            keeps drawer "hours 0;" -> fault 2 at 6
            keeps drawer "hours 13;" -> fault 2 at 6
            """);
        E.edge(3, "0 to 9 for each line, if there is none; 5 without", """
            drawer "life 1 1 7 1;" -> 1
            cost(0) -> 35/1
            drawer "life 1 1 7 1;lack 0;" -> 1
            cost(0) -> 0/1
            drawer "life 1 1 7 1;lack 9;" -> 1
            cost(0) -> 63/1
            drawer "lack 9;life 1 1 7 1;lack 1;" -> 1
            cost(0) -> 7/1
            keeps drawer "lack 10;" -> fault 2 at 5
            """);
        E.edge(3, "0 to 9 for each line, if it is wrong; 3 without", """
            drawer "life 1 1 7 1;has 0 32;" -> 1
            cost(0) -> 21/1
            drawer "life 1 1 7 1;has 0 32;wrong 0;" -> 1
            cost(0) -> 0/1
            drawer "life 1 1 7 1;has 0 32;wrong 9;" -> 1
            cost(0) -> 63/1
            drawer "wrong 9;life 1 1 7 1;has 0 32;wrong 1;" -> 1
            cost(0) -> 7/1
            keeps drawer "wrong 10;" -> fault 2 at 6
            """);
        E.edge(3, "HOURS to renew: H by R, 1 to 4, cut, 1 at least; 2 without", """
            drawer "life 1 1 1 9;life 1 1 1 8;life 1 1 1 3;life 1 1 1 2;life 1 1 1 1;" -> 5
            life(0..4, 4) -> 4 4 1 1 1
            drawer "life 1 1 1 9;life 1 1 1 8;life 1 1 1 3;life 1 1 1 2;life 1 1 1 1;half 1;" -> 5
            life(0..4, 4) -> 9 8 3 2 1
            drawer "life 1 1 1 9;life 1 1 1 8;life 1 1 1 3;life 1 1 1 2;life 1 1 1 1;half 3;" -> 5
            life(0..4, 4) -> 3 2 1 1 1
            drawer "half 1;life 1 1 1 9;life 1 1 1 8;life 1 1 1 3;life 1 1 1 2;life 1 1 1 1;half 4;" -> 5
            life(0..4, 4) -> 2 2 1 1 1
            keeps drawer "half 0;" -> fault 2 at 5
            keeps drawer "half 5;" -> fault 2 at 5
            """);
    }

    private static void drawerTooMany() {
        E.edge(3, "{ CLAUSE \";\" }, at most 60", """
            drawer "half 3;"*60 -> 0
            drawer "half 3;"*60 + " "*180 -> 0
            keeps drawer "half 3;"*61 -> fault 3 at 420
            drawer "half 3;"*60 + "  half 9;" -> fault 3 at 422
            drawer "half 3;"*60 + "has" -> fault 3 at 420
            drawer "half 3;"*59 + "life 1 1 1 1;" -> 1
            drawer "half 3;"*52 + "life 1 1 1 1;"*8 -> 8
            drawer "half 3;"*53 + "life 1 1 1 1;"*8 -> fault 3 at 462
            """);
        E.edge(3, "3 a CLAUSE, LIFE or fact (at its word) | of one the least.", """
            drawer "half 3;"*60 + "x" -> fault 1 at 420
            drawer "half 3;"*60 + ";" -> fault 1 at 420
            drawer "half 3;"*60 + "5" -> fault 1 at 420
            drawer "half 3;"*60 + "halfs 2;" -> fault 1 at 420
            drawer "life 1 1 1 1;"*8 + "lifes" -> fault 1 at 104
            drawer "life 1 1 1 1;"*8 + "life" -> fault 3 at 104
            drawer "life 1 1 1 1;"*8 + " life 999" -> fault 3 at 105
            drawer "life 1 1 1 1;"*8 + "half 1;" -> 8
            drawer "half 3;"*52 + "life 1 1 1 1;"*8 + "life" -> fault 3 at 468
            """);
        E.edge(3, "FAULTS, the first from the left, at its first byte", """
            drawer "half 5;x" -> fault 2 at 5
            drawer "x;half 5;" -> fault 1 at 0
            drawer "half 5 5" -> fault 2 at 5
            drawer "life 111 65 0 0" -> fault 2 at 5
            drawer "life 110 65 0 0" -> fault 2 at 9
            drawer "life 110 64 0 0" -> fault 2 at 12
            drawer "life 110 64 1 0" -> fault 2 at 14
            drawer "life 110 64 1 1" -> fault 1 at 15
            drawer "life 1 1 1 1;has 1 41" -> fault 2 at 17
            drawer "life 1 1 1 1;fact 1 6 0" -> fault 2 at 18
            drawer "life 1 1 1 1;fact 0 6 0" -> fault 2 at 20
            drawer "life 1 1 1 1;"*9 + "x" -> fault 3 at 104
            """);
    }

    private static void drawerSigns() {
        E.edge(3, "1 what can't stand there (at the length, if the text ends too early)", """
            drawer "half" -> fault 1 at 4
            drawer "half " -> fault 1 at 5
            drawer "half 2" -> fault 1 at 6
            drawer "half 2  " -> fault 1 at 8
            drawer "half 2 ;" -> 0
            drawer "life 1 1 1" -> fault 1 at 10
            drawer "life 1 1 1;" -> fault 1 at 10
            drawer "life 1 1 1 1 1;" -> fault 1 at 13
            drawer "half;" -> fault 1 at 4
            drawer ";" -> fault 1 at 0
            drawer "half 2;;" -> fault 1 at 7
            drawer "half 2,half 2;" -> fault 1 at 6
            drawer "2;" -> fault 1 at 0
            drawer "half 2;2" -> fault 1 at 7
            """);
        E.edge(3, "2 a number that is none such | at its first byte", """
            drawer "life  111  1 1 1;" -> fault 2 at 6
            drawer "life 1 1 1 1;has 0  41;" -> fault 2 at 20
            drawer "hours 0" -> fault 2 at 6
            drawer "hours 13x" -> fault 2 at 6
            drawer "hours " + "9"*500 -> fault 2 at 6
            drawer "hours " + "9"*594 -> fault 2 at 6
            // 2 to the 32nd, and 2 to the 64th, and 7
            drawer "hours 4294967303;" -> fault 2 at 6
            drawer "hours 18446744073709551623;" -> fault 2 at 6
            drawer "hours 2147483648;" -> fault 2 at 6
            drawer "hours 0000000000000000000007;" -> 0
            told(2) -> 7
            """);
        E.edge(3, "It is WEEK 0 at first (AGES as told), all are alive; pieces as told (written that many WEEKS ago; as FACTS were at first).", """
            drawer "life 0 64 1 1;life 110 64 1 1;has 0 40;has 1 0;fact 0 0 1;fact 1 0 1;hours 12;" -> 2
            told(0..8) -> 2 0 12 2 2 0 0 0 0
            life(0..1, 0) -> 0 110
            life(0..1, 5) -> 0
            life(0..1, 6) -> 40 0
            facts(0..1) -> 0
            law "facts" -> 1
            wrong(0..1) -> 0
            work "week;" -> 1
            wrong(0..1) -> 1
            """);
        E.edge(3, "WORDS: small letters, as many as stand there", """
            drawer "hal 2;" -> fault 1 at 0
            drawer "halfs 2;" -> fault 1 at 0
            drawer "halfhalf 2;" -> fault 1 at 0
            drawer "hal" -> fault 1 at 0
            drawer "Half 2;" -> fault 1 at 0
            drawer "halF 2;" -> fault 1 at 0
            drawer "half2;" -> 0
            drawer "week;" -> fault 1 at 0
            // the bytes next to the letters end a word, and can't stand there
            drawer "half" + #96 + "2;" -> fault 1 at 4
            drawer "half" + #123 + "2;" -> fault 1 at 4
            drawer "halfa2;" -> fault 1 at 0
            drawer "halfz2;" -> fault 1 at 0
            """);
        E.edge(3, "Numbers: digits, as many as stand there", """
            drawer "hours " + "0"*100 + "7;" -> 0
            told(2) -> 7
            drawer "hours 1 2;" -> fault 1 at 8
            drawer "hours 1x;" -> fault 1 at 7
            // the bytes next to the digits end a number, and can't stand there
            drawer "hours 1" + #47 + ";" -> fault 1 at 7
            drawer "hours 1" + #58 + ";" -> fault 1 at 7
            drawer "hours " + #47 + "1;" -> fault 1 at 6
            drawer "hours " + #58 + "1;" -> fault 1 at 6
            drawer "hours +1;" -> fault 1 at 6
            drawer "hours 1.0;" -> fault 1 at 7
            drawer "hours 09;" -> 0
            told(2) -> 9
            drawer "hours 10;" -> 0
            told(2) -> 10
            """);
        E.edge(3, "blanks (32) may stand ahead of all these, and at the end", """
            drawer "   hours   7   ;   half   3   ;   " -> 0
            told(2) -> 7
            drawer "hours7;half3;" -> 0
            drawer " " -> 0
            drawer "ho urs 7;" -> fault 1 at 0
            drawer "hours 1 1;" -> fault 1 at 8
            // the bytes next to the blank are none
            drawer #31 + "hours 7;" -> fault 1 at 0
            drawer #33 + "hours 7;" -> fault 1 at 0
            drawer "hours" + #9 + "7;" -> fault 1 at 5
            drawer "hours" + #10 + "7;" -> fault 1 at 5
            drawer "hours 7;" + #0 -> fault 1 at 8
            drawer "hours 7;" + #160 -> fault 1 at 8
            drawer "hours 7;" + #10 -> fault 1 at 8
            drawer "hours 7;" + #255 -> fault 1 at 8
            """);
    }

    private static void drawerAnew() {
        E.edge(3, "or the FAULT less 10 (all stays)", Edges.MIDWAY + """
            keeps drawer "x" -> fault 1 at 0
            keeps drawer "life 9 9 9 9;has 0 1;hours 1;lack 9;wrong 9;half 4;fact 0 0 1" -> fault 1 at 61
            keeps drawer "life 9 9 9 9;has 0 41;" -> fault 2 at 19
            keeps drawer "life 9 9 9 9;"*9 -> fault 3 at 104
            """);
        E.edge(3, "or the FAULT less 10 (all stays)", Edges.FULL + """
            keeps drawer "life 1 1 1 1;half 5;" -> fault 2 at 18
            """);
        String anew = """
            told(0..8) -> 3 0 6 3 1 0 0 0 0
            count(0..2) -> 0 0 0
            fault() -> -1
            loss() -> 0/1
            life(0, 0..7) -> 60 2 10 4 2 0 -1 -1
            life(1, 0..7) -> 80 8 20 2 1 0 10 0
            life(2, 0..7) -> 30 0 5 3 1 0 -1 -1
            facts(0..2) -> 0
            wrong(1) -> 20
            whose() -> 7
            written(0..2) -> 2305843009213693951
            undo() -> -1
            restore() -> -1
            would(5, 0, 1, 0, 0) -> 10
            risk() -> 125/32
            """;
        E.edge(3, "(WEEK 0; no LAW, PAGE, IMAGES, nothing to undo): how many LIVES",
            Edges.MIDWAY + "drawer " + Edges.THREE + " -> 3\n" + anew);
        E.edge(3, "(WEEK 0; no LAW, PAGE, IMAGES, nothing to undo): how many LIVES",
            Edges.FULL + "drawer " + Edges.THREE + " -> 3\n" + anew);
        E.edge(3, "(WEEK 0; no LAW, PAGE, IMAGES, nothing to undo): how many LIVES", Edges.FULL + """
            drawer "life 5 5 5 5;"*8 -> 8
            told(0..8) -> 8 0 8 8 0 0 0 0 0
            life(0..7, 6) -> -1
            life(0..7, 7) -> -1
            work "week;" -> 1
            facts(0..7) -> 0
            news(0..7) -> -1
            """);
    }

    private static void lawBytes() {
        E.bounds(4, "Likewise the LAW (n to 150): 1.", "", "law(?)", 0, 0, "bad");
        E.bounds(4, "Likewise the LAW (n to 150): 1.", Edges.FED, "law(?)", 0, 20, "bad");
        E.bounds(4, "Likewise the LAW (n to 150): 1.", "feed \"7\" + \" \"*159 -> 160", "law(?)", 0, 150, "bad");
        E.bounds(4, "Likewise the LAW (n to 150): 1.", "feed \"7\" + \" \"*139 -> 140", "law(?)", 0, 140, "bad");
        E.bounds(4, "Likewise the LAW (n to 150): 1.", "feed \"7\" + \" \"*599 -> 600", "law(?)", 0, 150, "bad");
        E.edge(4, "A LAW is a text of up to 150 bytes", """
            law "0"*148 + "17" -> 1
            would(1, 1, 1, 0, 0) -> 17
            law "0" + "+0"*73 + "+9 " -> 1
            would(1, 1, 1, 0, 0) -> 9
            law "(1)" + "+(1)"*36 + "+1" + " " -> 1
            would(1, 1, 1, 0, 0) -> 38
            law "1+"*75 -> fault 1 at 150
            law "1"*150 -> fault 2 at 0
            law "1" + " "*149 -> 1
            law " "*149 + "1" -> 1
            law " "*149 + "x" -> fault 1 at 149
            // the rest of the tape is gone with it
            feed "1" + " "*148 + "+1" -> 160
            law(149) -> 1
            count(1) -> 0
            """);
        E.edge(4, "E, at the end nothing more", """
            keeps law "" -> fault 1 at 0
            keeps law "   " -> fault 1 at 3
            law "1 1" -> fault 1 at 2
            law "1;" -> fault 1 at 1
            law "1)" -> fault 1 at 1
            law "1]" -> fault 1 at 1
            law "1,1" -> fault 1 at 1
            law "age(1)" -> fault 1 at 3
            law "1  " -> 1
            """);
        E.edge(4, "Likewise the LAW", Edges.MIDWAY + """
            keeps law "age + x" -> fault 1 at 6
            keeps law "1000" -> fault 2 at 0
            keeps law "(((((((1)))))))" -> fault 3 at 6
            keeps law "" -> fault 1 at 0
            law "7" -> 1
            // what was lost stays lost, images and works stay
            count(0..2) -> 2 0 2
            told(7) -> 2
            """);
        E.edge(4, "without: age + age", """
            would(0, 0, 1, 0, 0) -> 0
            would(1, 200, 99, 1, 24) -> 2
            would(31, 0, 1, 0, 0) -> 62
            would(32, 0, 1, 0, 0) -> 64
            would(200, 0, 1, 0, 0) -> 64
            law "x" -> fault 1 at 0
            would(31, 0, 1, 0, 0) -> 62
            """);
    }

    private static void lawNumbers() {
        E.edge(4, "N (0 to 999)", """
            law "0" -> 1
            would(9, 9, 9, 1, 9) -> 0
            law "999 - 940" -> 1
            would(9, 9, 9, 1, 9) -> 59
            law "000999 - 0940" -> 1
            would(9, 9, 9, 1, 9) -> 59
            law "1000" -> fault 2 at 0
            law "1 + 1000" -> fault 2 at 4
            law "4294967297" -> fault 2 at 0
            law "-1" -> fault 1 at 0
            law "1 - -1" -> fault 1 at 4
            would(9, 9, 9, 1, 9) -> 59
            """);
        E.edge(4, "WRONG: by how many of 64 a piece is wrong: what comes out, 0 at least, 64 at most.", """
            law "0 - 999" -> 1
            would(0, 0, 1, 0, 0) -> 0
            law "0 - 1" -> 1
            would(0, 0, 1, 0, 0) -> 0
            law "1" -> 1
            would(0, 0, 1, 0, 0) -> 1
            law "63" -> 1
            would(0, 0, 1, 0, 0) -> 63
            law "64" -> 1
            would(0, 0, 1, 0, 0) -> 64
            law "65" -> 1
            would(0, 0, 1, 0, 0) -> 64
            law "999 * 999" -> 1
            would(0, 0, 1, 0, 0) -> 64
            // only at the end
            law "(0 - 5) + 9" -> 1
            would(0, 0, 1, 0, 0) -> 4
            law "(60 + 60) / 4" -> 1
            would(0, 0, 1, 0, 0) -> 30
            """);
        E.edge(4, "Values are whole numbers of 32 bits that wrap", """
            // 2 to the 31st is the least number
            law "512*512*512*16" -> 1
            would(0, 0, 1, 0, 0) -> 0
            law "512*512*512*16 - 1" -> 1
            would(0, 0, 1, 0, 0) -> 64
            law "(512*512*512*16 - 1) + 1" -> 1
            would(0, 0, 1, 0, 0) -> 0
            law "0 - 512*512*512*16" -> 1
            would(0, 0, 1, 0, 0) -> 0
            law "0 - 512*512*512*16 - 1" -> 1
            would(0, 0, 1, 0, 0) -> 64
            law "512*512*512*16 + 512*512*512*16 + 7" -> 1
            would(0, 0, 1, 0, 0) -> 7
            law "512*512*512*32 + 7" -> 1
            would(0, 0, 1, 0, 0) -> 7
            law "(512*512*512*16 - 1) * 2 + 9" -> 1
            would(0, 0, 1, 0, 0) -> 7
            law "512*512*512*16 / (0 - 1)" -> 1
            would(0, 0, 1, 0, 0) -> 0
            law "512*512*512*16 / (0 - 1) - 1" -> 1
            would(0, 0, 1, 0, 0) -> 64
            law "least[512*512*512*16, 1] - 512*512*512*16 + 3" -> 1
            would(0, 0, 1, 0, 0) -> 3
            law "most[512*512*512*16, 1]" -> 1
            would(0, 0, 1, 0, 0) -> 1
            law "999*999*999*999" -> 1
            would(0, 0, 1, 0, 0) -> 0
            law "0-999*999*999*999" -> 1
            would(0, 0, 1, 0, 0) -> 64
            """);
        E.edge(4, "/ cuts, by 0 it is 0", """
            law "7 / 2" -> 1
            would(0, 0, 1, 0, 0) -> 3
            law "(0 - 7) / 2 + 10" -> 1
            would(0, 0, 1, 0, 0) -> 7
            law "7 / (0 - 2) + 10" -> 1
            would(0, 0, 1, 0, 0) -> 7
            law "(0 - 7) / (0 - 2)" -> 1
            would(0, 0, 1, 0, 0) -> 3
            law "7 / 8 + 1" -> 1
            would(0, 0, 1, 0, 0) -> 1
            law "7 / 0 + 5" -> 1
            would(0, 0, 1, 0, 0) -> 5
            law "0 / 0 + 5" -> 1
            would(0, 0, 1, 0, 0) -> 5
            law "512*512*512*16 / 0 + 5" -> 1
            would(0, 0, 1, 0, 0) -> 5
            law "9 / facts" -> 1
            would(0, 0, 1, 0, 0..2) -> 0 9 4
            law "9 / 0 * 0 + 9 / 1" -> 1
            would(0, 0, 1, 0, 0) -> 9
            """);
        E.edge(4, "E: T { + or - T }. T: U { * or / U }.", """
            law "20 - 5 - 3" -> 1
            would(0, 0, 1, 0, 0) -> 12
            law "40 / 4 / 5" -> 1
            would(0, 0, 1, 0, 0) -> 2
            law "7 / 2 * 2" -> 1
            would(0, 0, 1, 0, 0) -> 6
            law "2 + 3 * 4 - 6 / 2" -> 1
            would(0, 0, 1, 0, 0) -> 11
            law "1 +" -> fault 1 at 3
            law "1 *" -> fault 1 at 3
            law "1 + * 2" -> fault 1 at 4
            law "* 2" -> fault 1 at 0
            law "1 % 2" -> fault 1 at 2
            law "()" -> fault 1 at 1
            law "(1" -> fault 1 at 2
            law "(1]" -> fault 1 at 2
            law "(1,2)" -> fault 1 at 2
            """);
    }

    private static void lawUnits() {
        E.edge(4, "\"age\" (WEEKS the piece is old)", """
            drawer "life 1 1 1 1;life 1 1 1 1;has 0 0;has 1 40;" -> 2
            law "age" -> 1
            wrong(0..1) -> 0 40
            work "week;" -> 1
            wrong(0..1) -> 1 41
            work "again 20[week;];" -> 20
            work "week;week;week;" -> 3
            wrong(0..1) -> 24 64
            law "age - 30" -> 1
            wrong(0..1) -> 0 34
            """);
        E.edge(4, "\"years\" (A, and all WEEKS by 52, cut)", """
            drawer "life 0 1 1 1;life 40 1 1 1;has 0 0;has 1 40;" -> 2
            law "years" -> 1
            wrong(0..1) -> 0 40
            work "again 10[again 5[week;];];week;" -> 51
            wrong(0..1) -> 0 40
            life(0..1, 0) -> 0 40
            work "week;" -> 1
            wrong(0..1) -> 1 41
            life(0..1, 0) -> 1 41
            work "again 10[again 5[week;];];week;" -> 51
            wrong(0..1) -> 1 41
            work "week;" -> 1
            wrong(0..1) -> 2 42
            work "again 10[again 5[week;];];week;" -> 51
            wrong(0..1) -> 2 42
            work "week;" -> 1
            told(1) -> 156
            wrong(0..1) -> 3 43
            work "again 11[again 4[week;];];" -> 44
            told(1) -> 200
            wrong(0..1) -> 3 43
            life(0..1, 0) -> 3 43
            """);
        E.edge(4, "\"worth\" (W)", """
            drawer "life 1 1 1 1;life 1 1 64 1;life 1 1 99 1;has 0 0;has 1 0;has 2 0;" -> 3
            law "worth" -> 1
            wrong(0..2) -> 1 64 64
            law "worth - 60" -> 1
            wrong(0..2) -> 0 4 39
            """);
        E.edge(4, "\"dead\" (1, if it is by one who is dead, else 0)", """
            drawer "life 1 1 1 1;life 1 1 1 1;life 1 1 1 1;has 0 0;has 1 0;by 0 2;" -> 3
            law "dead * 9 + 1" -> 1
            wrong(0..2) -> 1 1 -1
            work "die 2;" -> 1
            wrong(0..2) -> 10 1 -1
            work "week;renew 0;" -> 2
            wrong(0..2) -> 10 1 -1
            2 times undo() -> taken
            wrong(0..2) -> 1 1 -1
            """);
        E.edge(4, "how many of the FACTS of the LIFE have changed since it was written, each as often as told", """
            drawer "life 1 1 1 1;life 1 1 1 1;has 0 40;fact 0 0 1;fact 0 0 1;fact 0 1 2;fact 1 3 1;fact 0 0 3;" -> 2
            law "facts" -> 1
            wrong(0..1) -> 0 -1
            work "week;write 1;" -> 2
            wrong(0..1) -> 2 0
            work "week;" -> 1
            wrong(0..1) -> 3 0
            work "renew 0;" -> 1
            wrong(0..1) -> 0 0
            work "week;" -> 1
            wrong(0..1) -> 1 0
            """);
        E.edge(4, "\"least\" \"[\" E \",\" E \"]\", \"most\" \"[\" E \",\" E \"]\", or \"(\" E \")\"", """
            law "least[3, 4] + least[4, 3] * 10" -> 1
            would(0, 0, 1, 0, 0) -> 33
            law "most[3, 4] + most[4, 3] * 10" -> 1
            would(0, 0, 1, 0, 0) -> 44
            law "least[5, 5] + most[5, 5]" -> 1
            would(0, 0, 1, 0, 0) -> 10
            law "least[0 - 9, 2] + 20" -> 1
            would(0, 0, 1, 0, 0) -> 11
            law "most[0 - 9, 0 - 8] + 20" -> 1
            would(0, 0, 1, 0, 0) -> 12
            law "least" -> fault 1 at 5
            law "least 1" -> fault 1 at 6
            law "least(1,2)" -> fault 1 at 5
            law "least[1]" -> fault 1 at 7
            law "least[1,2" -> fault 1 at 9
            law "least[1,2)" -> fault 1 at 9
            law "most[1,2,3]" -> fault 1 at 8
            law "most[,2]" -> fault 1 at 5
            law "most[1,]" -> fault 1 at 7
            law "leastmost[1,2]" -> fault 1 at 0
            law "ages" -> fault 1 at 0
            law "ag" -> fault 1 at 0
            law "Age" -> fault 1 at 0
            """);
    }

    private static void lawOpen() {
        E.edge(4, "a 7th of ( least most again that is open at one time", """
            law "((((((1))))))" -> 1
            would(0, 0, 1, 0, 0) -> 1
            keeps law "(((((((1)))))))" -> fault 3 at 6
            law "(((((((" -> fault 3 at 6
            law "((((((" -> fault 1 at 6
            law "((((((x" -> fault 1 at 6
            law "( ( ( ( ( (  (" -> fault 3 at 13
            law "((((((least[1,2]))))))" -> fault 3 at 6
            law "((((((most" -> fault 3 at 6
            law "((((((leasts" -> fault 1 at 6
            law "(((((least[1,2])))))" -> 1
            would(0, 0, 1, 0, 0) -> 1
            law "least[least[least[least[least[least[9,8],7],6],5],4],3]" -> 1
            would(0, 0, 1, 0, 0) -> 3
            law "least[least[least[least[least[least[least[9,8],7],6],5],4],3],2]" -> fault 3 at 36
            law "most[1,most[2,most[3,most[4,most[5,most[6,7]]]]]]" -> 1
            would(0, 0, 1, 0, 0) -> 7
            law "most[1,most[2,most[3,most[4,most[5,most[6,(7)]]]]]]" -> fault 3 at 42
            law "most[1,most[2,most[3,most[4,most[5,most[(6),7]]]]]]" -> fault 3 at 40
            // one that is closed is open no more
            law "((((((1))))))+((((((1))))))+least[(((((1))))),(((((1)))))]" -> 1
            would(0, 0, 1, 0, 0) -> 3
            law "((((((1)))))+(((((2)))))+least[((((3)))),((((4))))])" -> 1
            would(0, 0, 1, 0, 0) -> 6
            law "((((((1)))))+((((((2))))))+3)" -> fault 3 at 18
            law "((((((1)))))+(((((2)))))+least[(((((3))))),4])" -> fault 3 at 35
            law "((((((1)))))+(((((2)))))+least[4,(((((3)))))])" -> fault 3 at 37
            """);
        E.edge(4, "a 7th of ( least most again that is open at one time", """
            // all that six can hold back: a sum, a product, a first of two
            law "1+2*most[1,1+2*most[1,1+2*most[1,1+2*most[1,1+2*most[1,1+2*most[1,1-1*1]]]]]]/2" -> 1
            would(0, 0, 1, 0, 0) -> 64
            law "9-1*(9-1*(9-1*(9-1*(9-1*(9-1*(9-1*7))))))" -> 1
            would(0, 0, 1, 0, 0) -> 2
            """);
    }

    private static void workBytes() {
        E.bounds(5, "Likewise WORK (n to 150), which is done", "", "work(?)", 0, 0, "bad");
        E.bounds(5, "Likewise WORK (n to 150), which is done", Edges.FED, "work(?)", 0, 20, "bad");
        E.bounds(5, "Likewise WORK (n to 150), which is done", "feed \" \"*160 -> 160", "work(?)", 0, 150, "bad");
        E.bounds(5, "Likewise WORK (n to 150), which is done", "feed \"week;\" + \" \"*595 -> 600", "work(?)", 0, 150, "bad");
        E.edge(5, "WORK is a text of up to 150 bytes", """
            work "week;"*30 -> 30
            told(1) -> 30
            work "week;"*29 + "week " -> fault 1 at 150
            work "week;"*29 + "week]" -> fault 1 at 149
            work " "*150 -> 0
            work " "*145 + "week;" -> 1
            told(1) -> 31
            // the rest of the tape is gone with it
            feed "week;week;week;week;" -> 20
            work(10) -> 2
            count(1) -> 0
            told(1) -> 33
            feed "week;week;week;week;" -> 20
            work(4) -> -9
            fault() -> 4
            told(1) -> 33
            """);
        E.edge(5, "or the FAULT less 10 (none is)", Edges.MIDWAY + """
            keeps work "week;x" -> fault 1 at 5
            keeps work "die 0;die 3;" -> fault 2 at 10
            keeps work "week;week" -> fault 1 at 9
            keeps work "again 1[again 1[again 1[again 1[again 1[again 1[week;again 1[" -> fault 3 at 53
            keeps work "week;again 21[];" -> fault 2 at 11
            """);
    }

    private static void workReading() {
        E.edge(5, "STEP: \"write\" I, \"renew\" I, \"die\" I, \"week\"", """
            drawer "life 1 1 1 1;"*8 -> 8
            work "write 7;die 7;" -> 2
            keeps work "write 8;" -> fault 2 at 6
            keeps work "renew 8;" -> fault 2 at 6
            keeps work "die 8;" -> fault 2 at 4
            work "die 4294967296;" -> fault 2 at 4
            work "die 0007;" -> 0
            work "die;" -> fault 1 at 3
            work "die" -> fault 1 at 3
            work "week 1;" -> fault 1 at 5
            work "week" -> fault 1 at 4
            work "weeks;" -> fault 1 at 0
            work "wee;" -> fault 1 at 0
            work ";" -> fault 1 at 0
            work "]" -> fault 1 at 0
            work "life 1 1 1 1;" -> fault 1 at 0
            work "  die  0  ;  week  ;  " -> 2
            """);
        E.edge(5, "\"again\" N \"[\" { STEP \";\" } \"]\" (N 0 to 20)", """
            work "again 0[week;];" -> 0
            told(1) -> 0
            told(8) -> 0
            work "again 1[week;];" -> 1
            work "again 20[week;];" -> 20
            told(1) -> 21
            work "again 20[];" -> 0
            work "again 0[];" -> 0
            work "again 2[week;week;];week;" -> 5
            told(1) -> 26
            keeps work "again 21[week;];" -> fault 2 at 6
            work "again[week;];" -> fault 1 at 5
            work "again 1 week;" -> fault 1 at 8
            work "again 1(week;);" -> fault 1 at 7
            work "again 1[week];" -> fault 1 at 12
            work "again 1[week;]" -> fault 1 at 14
            work "again 1[week;" -> fault 1 at 13
            work "again 1[" -> fault 1 at 8
            keeps work "again 1;" -> fault 1 at 7
            keeps work "again;" -> fault 1 at 5
            keeps work "again 21;" -> fault 2 at 6
            keeps work "again 1[week;;" -> fault 1 at 13
            work "again 1[;];" -> fault 1 at 8
            work "again 1[];];" -> fault 1 at 10
            work " again  1  [  week  ;  ]  ; " -> 1
            """);
        E.edge(5, "a 7th of ( least most again that is open at one time", """
            work "again 1["*6 + "week;" + "];"*6 -> 1
            keeps work "again 1["*7 + "week;" + "];"*7 -> fault 3 at 48
            work "again 1["*7 -> fault 3 at 48
            work "again 1["*6 -> fault 1 at 48
            work "again 1["*6 + "again" -> fault 3 at 48
            work "again 1["*6 + "agains" -> fault 1 at 48
            work "again 1["*6 + "  again 99" -> fault 3 at 50
            // one that is closed is open no more
            work "again 1[];"*15 -> 0
            work "again 1[again 1[];" + "again 1["*5 + "];"*6 -> 0
            work "again 1[again 1[];" + "again 1["*6 + "];"*7 -> fault 3 at 58
            """);
    }

    private static void workHours() {
        E.edge(5, "write: I, alive, without a piece: H HOURS of the WEEK's (else, or if there are fewer left, REFUSED): a piece, 0 WEEKS old", """
            drawer "life 1 1 1 4;life 1 1 1 4;life 1 1 1 1;hours 8;" -> 3
            work "write 0;" -> 1
            told(2) -> 4
            life(0, 6) -> 0
            work "write 0;" -> 0
            told(8) -> 1
            told(2) -> 4
            work "write 1;" -> 1
            told(2) -> 0
            work "write 2;" -> 0
            told(8) -> 1
            life(2, 6) -> -1
            new
            drawer "life 1 1 1 4;life 1 1 1 4;hours 7;" -> 2
            work "write 0;write 1;" -> 1
            told(8) -> 1
            told(2) -> 3
            life(1, 6) -> -1
            new
            drawer "life 1 1 1 9;hours 8;" -> 1
            work "write 0;" -> 0
            told(2) -> 8
            new
            drawer "life 1 1 1 9;hours 9;" -> 1
            work "write 0;" -> 1
            told(2) -> 0
            new
            drawer "life 1 1 1 1;has 0 40;" -> 1
            work "write 0;" -> 0
            told(2) -> 8
            life(0, 6) -> 40
            work "die 0;write 0;" -> 1
            told(8) -> 1
            life(0, 6) -> -1
            told(4) -> 0
            """);
        E.edge(5, "renew: I, alive, with a piece that is not 0 WEEKS old: HOURS to renew likewise: 0 WEEKS old", """
            drawer "life 1 1 1 8;life 1 1 1 8;life 1 1 1 1;has 0 40;has 1 1;has 2 1;hours 8;" -> 3
            work "renew 0;" -> 1
            told(2) -> 4
            life(0, 6) -> 0
            work "renew 0;" -> 0
            told(8) -> 1
            told(2) -> 4
            work "renew 1;" -> 1
            told(2) -> 0
            work "renew 2;" -> 0
            life(2, 6) -> 1
            new
            drawer "life 1 1 1 8;life 1 1 1 8;has 0 1;has 1 1;hours 7;" -> 2
            work "renew 0;renew 1;" -> 1
            told(2) -> 3
            life(0..1, 6) -> 0 1
            work "week;renew 0;" -> 2
            life(0..1, 6) -> 0 2
            new
            drawer "life 1 1 1 1;has 0 0;" -> 1
            work "renew 0;" -> 0
            work "week;renew 0;" -> 2
            told(2) -> 7
            new
            drawer "life 1 1 1 1;" -> 1
            work "renew 0;" -> 0
            told(2) -> 8
            told(8) -> 1
            work "write 0;renew 0;" -> 1
            work "week;die 0;renew 0;" -> 2
            told(8) -> 1
            """);
        E.edge(5, "one that can't be done is REFUSED, and changes nothing", Edges.MIDWAY + """
            // undone at once, so that only what the STEPS did could be left
            work "die 2;write 2;renew 2;write 0;renew 1;" -> 0
            told(8) -> 5
            told(0..6) -> 3 3 5 2 2 1 0
            life(0..2, 6) -> 1 0 -1
            loss() -> 25/1
            """);
    }

    private static void workDeaths() {
        E.edge(5, "two HOURS of the WEEK's go, as far as there are any", """
            drawer "life 1 1 1 1;life 1 1 1 1;life 1 1 1 1;hours 5;" -> 3
            work "die 0;" -> 1
            told(2) -> 3
            work "die 1;" -> 1
            told(2) -> 1
            work "die 2;" -> 1
            told(2) -> 0
            told(5) -> 3
            new
            drawer "life 1 1 1 1;life 1 1 1 1;hours 2;" -> 2
            work "die 0;" -> 1
            told(2) -> 0
            work "die 1;" -> 1
            told(2) -> 0
            work "week;" -> 1
            told(2) -> 2
            new
            drawer "life 1 1 1 1;has 0 3;hours 5;" -> 1
            work "die 0;" -> 1
            told(2) -> 5
            told(5..6) -> 0 1
            """);
        E.edge(5, "die: I dies (REFUSED, if he is dead)", """
            drawer "life 1 0 1 1;life 1 64 1 1;has 1 0;hours 5;" -> 2
            work "die 0;die 0;" -> 1
            told(8) -> 1
            told(2) -> 3
            told(3..6) -> 1 1 1 0
            loss() -> 5/1
            work "die 1;die 1;" -> 1
            told(8) -> 1
            told(2) -> 3
            told(3..6) -> 0 0 1 1
            loss() -> 5/1
            """);
        E.edge(5, "L times W are lost | S times W times that many 64ths are lost on the mean", """
            drawer "life 1 1 99 1;life 1 1 99 1;has 1 40;lack 9;wrong 9;" -> 2
            work "die 0;" -> 1
            loss() -> 891/1
            work "die 1;" -> 1
            loss() -> 1782/1
            new
            drawer "life 1 1 1 1;life 1 1 1 1;has 1 1;lack 0;wrong 1;" -> 2
            work "die 0;" -> 1
            loss() -> 0/1
            work "die 1;" -> 1
            loss() -> 1/32
            """);
        E.edge(5, "(the piece is gone; by WRONG of 64 it is wrong", """
            drawer "life 1 1 1 1;life 1 1 1 1;life 1 1 1 1;has 0 0;has 1 0;has 2 0;wrong 1;" -> 3
            law "0 - 1" -> 1
            work "die 0;" -> 1
            loss() -> 0/1
            life(0, 6) -> -1
            told(4) -> 2
            law "1" -> 1
            work "die 1;" -> 1
            loss() -> 1/64
            law "65" -> 1
            work "die 2;" -> 1
            loss() -> 65/64
            told(4) -> 0
            """);
    }

    private static void workWeeks() {
        E.edge(5, "week: WEEKS are one more (200 at most, else REFUSED)", """
            drawer "life 1 1 1 3;life 1 1 1 1;has 0 40;hours 5;" -> 2
            3 times work "again 10[again 5[week;];];" -> 50
            work "again 7[again 7[week;];];" -> 49
            told(1) -> 199
            work "write 1;week;" -> 2
            told(1..2) -> 200 5
            life(0..1, 6) -> 240 1
            work "renew 0;week;week;" -> 1
            told(8) -> 2
            told(1..2) -> 200 4
            life(0..1, 6) -> 0 1
            undo() -> 5
            undo() -> 4
            told(1) -> 199
            work "again 2[week;];" -> 1
            told(8) -> 1
            told(1) -> 200
            """);
        E.edge(5, "pieces one WEEK older, FACTS that change in it change, all HOURS are there again", """
            drawer "life 1 1 1 2;life 1 1 1 2;has 0 0;fact 0 0 1;fact 0 0 2;fact 1 5 2;hours 3;" -> 2
            work "write 1;" -> 1
            told(2) -> 1
            work "week;" -> 1
            told(2) -> 3
            life(0..1, 6) -> 1 1
            facts(0..1) -> 1 0
            work "week;" -> 1
            told(2) -> 3
            life(0..1, 6) -> 2 2
            facts(0..1) -> 0 32
            """);
        E.edge(5, "how many STEPS were done (agains not counted, nor REFUSED ones)", """
            drawer "life 1 1 1 1;" -> 1
            work "" -> 0
            work "again 3[again 2[week;];renew 0;];" -> 6
            told(8) -> 3
            work "write 0;write 0;again 2[die 0;];week;" -> 3
            told(8) -> 2
            """);
    }

    private static void workBegun() {
        E.edge(5, "200 STEPS at most are begun by one WORK", """
            // 1 and 19 times 10 are 191; nine more are 200
            drawer "life 1 1 1 1;" -> 1
            work "again 19[again 9[week;];];again 0[];again 0[];again 0[];again 0[];again 0[];again 0[];again 0[];again 0[];die 0;" -> 172
            told(3) -> 0
            undo() -> 0
            work "again 19[again 9[week;];];again 0[];again 0[];again 0[];again 0[];again 0[];again 0[];again 0[];again 0[];week;die 0;" -> 172
            told(3) -> 1
            told(1) -> 172
            """);
        E.edge(5, "(an again, too, each time it is come to; REFUSED ones, too), what would come behind is left out", """
            drawer "life 1 1 1 1;" -> 1
            // 1 and 20 times 1 and 8 are 181, and 18 REFUSED ones: one is left
            work "again 20[again 8[renew 0;];];again 17[renew 0;];die 0;die 0;" -> 1
            told(8) -> 177
            told(3) -> 0
            undo() -> 0
            work "again 20[again 8[renew 0;];];again 18[renew 0;];die 0;" -> 0
            told(8) -> 178
            told(3) -> 1
            undo() -> 0
            // agains that do nothing, each come to 20 times: 1 and 9 times 21 are 190
            work "again 9[again 20[again 0[];];];again 8[renew 0;];die 0;" -> 1
            told(8) -> 8
            undo() -> 0
            work "again 9[again 20[again 0[];];];again 9[renew 0;];die 0;" -> 0
            told(8) -> 9
            undo() -> 0
            // the 200th is an again: nothing of it is done
            work "again 9[again 20[again 0[];];];again 8[renew 0;];again 2[die 0;];" -> 0
            told(8) -> 8
            told(3) -> 1
            undo() -> 0
            // 1 and 19 times 10, then 1 and 8
            work "again 20[again 9[week;];];die 0;" -> 179
            told(1) -> 179
            told(3) -> 1
            undo() -> 0
            work "again 20[again 20[again 20[again 20[again 20[again 20[week;];];];];];];" -> 185
            """);
        E.edge(5, "200 STEPS at most are begun by one WORK", """
            // the next WORK begins anew
            work "again 20[again 20[again 0[];];];" -> 0
            work "week;" -> 1
            told(1) -> 1
            """);
    }

    private static void workSixteen() {
        String sixteen = "drawer \"life 1 1 1 1;\" -> 1\n16 times work \"week;\" -> 1\n";
        E.edge(5, "16 WORKS are there that were not undone", sixteen + """
            count(2) -> 16
            keeps work "week;" -> -20
            keeps work "x" -> -20
            keeps work "" -> -20
            told(1) -> 16
            undo() -> 15
            work "week;" -> 1
            work "week;" -> -20
            undo() -> 15
            // a FAULT is no WORK
            work "x" -> fault 1 at 0
            count(2) -> 15
            work "" -> 0
            count(2) -> 16
            work "" -> -20
            """);
        E.edge(5, "-20 ahead of that (nothing is read, there is no FAULT, the TAPE is empty then)", sixteen + """
            law "x" -> fault 1 at 0
            feed "what is this" -> 20
            work(12) -> -20
            fault() -> -1
            count(1) -> 0
            told(8) -> 0
            count(2) -> 16
            feed "week;" -> 20
            keeps work(21) -> bad
            keeps work(-1) -> bad
            work(0) -> -20
            count(1) -> 0
            """);
        E.edge(5, "16 WORKS are there that were not undone", Edges.FULL + """
            keeps work "die 0;" -> -20
            keeps work "die 9;" -> -20
            told(8) -> 1
            """);
    }

    private static void page() {
        E.bounds(6, "Likewise the PAGE (n to 60): how many lines.", "", "page(?)", 0, 0, "bad");
        E.bounds(6, "Likewise the PAGE (n to 60): how many lines.", Edges.FED, "page(?)", 0, 20, "bad");
        E.bounds(6, "Likewise the PAGE (n to 60): how many lines.", "feed \"0 1;\" + \" \"*56 -> 60", "page(?)", 0, 60, "bad");
        E.bounds(6, "Likewise the PAGE (n to 60): how many lines.", "feed \"0 1;\" + \" \"*76 -> 80", "page(?)", 0, 60, "bad");
        E.edge(6, "A PAGE is a text of up to 60 bytes", """
            page "0 1;" + " "*56 -> 1
            page "5 " + "0"*56 + "1;" -> 1
            page "5 " + "0"*57 + "1" -> fault 1 at 60
            page " "*59 + "x" -> fault 1 at 59
            told(7) -> 1
            // the rest of the tape is gone with it
            feed "0 1;1 1;2 1;" -> 20
            page(8) -> 2
            count(1) -> 0
            told(7) -> 2
            """);
        E.edge(6, "{ K B \";\" }, 6 lines at most, no K twice | a K twice; J as I: at it", """
            page "0 0;1 1;2 0;3 1;4 0;5 1;" -> 6
            told(7) -> 6
            keeps page "0 0;1 1;2 0;3 1;4 0;5 1;0 0;" -> fault 2 at 24
            page "0 0;1 1;2 0;3 1;4 0;5 1;6 0;" -> fault 2 at 24
            page "0 0;1 1;2 0;3 1;4 0;5 1;x" -> fault 1 at 24
            keeps page "0 1;0 1;" -> fault 2 at 4
            page "5 0;  005 1;" -> fault 2 at 6
            page "0 1;1 1;0 9" -> fault 2 at 8
            page "0 1;0" -> fault 2 at 4
            keeps page "6 0;" -> fault 2 at 0
            keeps page "0 2;" -> fault 2 at 2
            page "0 1" -> fault 1 at 3
            page "0" -> fault 1 at 1
            page "0;" -> fault 1 at 1
            page "01;" -> fault 1 at 2
            page "0 1 1;" -> fault 1 at 4
            page ";" -> fault 1 at 0
            page "a 1;" -> fault 1 at 0
            told(7) -> 6
            page "" -> 0
            told(7) -> 0
            page "  0  1  ;  5  0  ;  " -> 2
            """);
        E.edge(6, "a piece says FACT K is B (0 as at first, 1 the other one)", """
            drawer "life 1 1 1 1;fact 0 0 1;fact 0 5 60;" -> 1
            page "0 0;" -> 1
            written(0) -> 1
            page "0 1;" -> 1
            written(0) -> 2305843009213693950
            page "5 1;" -> 1
            written(0) -> 1152921504606846976
            page "5 0;" -> 1
            written(0) -> 1152921504606846975
            """);
        E.edge(6, "Likewise the PAGE", Edges.MIDWAY + """
            keeps page "0 1;1 1;2" -> fault 1 at 9
            keeps page "0 0;6 0;" -> fault 2 at 4
            keeps page "0 0;0 0;" -> fault 2 at 4
            """);
    }

    private static void fault() {
        E.edge(7, "NONE without.", """
            keeps fault() -> -1
            law "x" -> fault 1 at 0
            keeps fault() -> 0
            law "1" -> 1
            keeps fault() -> -1
            page "x" -> fault 1 at 0
            page "" -> 0
            fault() -> -1
            work "x" -> fault 1 at 0
            work "" -> 0
            fault() -> -1
            drawer "x" -> fault 1 at 0
            drawer "" -> 0
            fault() -> -1
            """);
        E.edge(7, "The place of the FAULT of the latest text", """
            // the first and the last places, and the length
            drawer "x" + " "*599 -> fault 1 at 0
            drawer " "*599 + "x" -> fault 1 at 599
            drawer "half " + "0"*594 + "2" -> fault 1 at 600
            law " "*149 + "x" -> fault 1 at 149
            law " "*150 -> fault 1 at 150
            work " "*149 + "x" -> fault 1 at 149
            work "week;"*29 + "week " -> fault 1 at 150
            page " "*59 + "x" -> fault 1 at 59
            page "0 1;"*1 + " "*55 + "1" -> fault 1 at 60
            fault() -> 60
            """);
        E.edge(7, "The place of the FAULT of the latest text", """
            // only a text that was read changes it
            work "" -> 0
            drawer "half 2;"*3 + "x" -> fault 1 at 21
            feed "x" -> 20
            fault() -> 21
            keeps law(21) -> bad
            keeps drawer(-1) -> bad
            keeps work(151) -> bad
            keeps page(61) -> bad
            fault() -> 21
            undo() -> 0
            fault() -> 21
            image() -> 1
            restore() -> 0
            fault() -> 21
            law(0) -> -9
            fault() -> 0
            drawer(0) -> 0
            fault() -> -1
            """);
    }

    private static void undo() {
        E.edge(8, "-1: there is none.", """
            keeps undo() -> -1
            drawer "life 1 1 1 1;" -> 1
            keeps undo() -> -1
            work "x" -> fault 1 at 0
            undo() -> -1
            work "" -> 0
            undo() -> 0
            keeps undo() -> -1
            work "renew 0;" -> 0
            undo() -> 0
            undo() -> -1
            drawer "" -> 0
            undo() -> -1
            """);
        E.edge(8, "The latest WORK that was done is undone: how many are left", """
            drawer "life 1 1 2 1;life 1 1 2 1;has 1 3;hours 3;" -> 2
            work "write 0;" -> 1
            work "die 0;" -> 1
            work "die 1;" -> 1
            12 times work "week;" -> 1
            work "again 2[renew 0;];" -> 0
            told(1..8) -> 12 3 0 0 0 2 0 2
            undo() -> 15
            told(8) -> 0
            12 times undo() -> taken
            told(1..8) -> 0 2 0 0 0 2 0 0
            count(2) -> 3
            loss() -> 9/16
            undo() -> 2
            told(1..8) -> 0 2 1 1 0 1 0 0
            life(1, 6) -> 3
            loss() -> 0/1
            undo() -> 1
            told(1..8) -> 0 2 2 2 0 0 0 0
            undo() -> 0
            told(1..8) -> 0 3 2 1 0 0 0 0
            life(0, 6) -> -1
            keeps undo() -> -1
            """);
        E.edge(8, "The latest WORK that was done is undone: how many are left", """
            drawer "life 1 1 1 1;" -> 1
            16 times work "week;" -> 1
            undo() -> 15
            undo() -> 14
            told(1) -> 14
            work "week;week;" -> 2
            undo() -> 14
            13 times undo() -> taken
            told(1) -> 1
            undo() -> 0
            told(1) -> 0
            keeps undo() -> -1
            """);
    }
}
