import java.util.Arrays;
import java.util.NoSuchElementException;

/**
 * A drawer of lives written ahead: who is lacking, who is stale, and what a death would cost.
 * Odds are kept in whole 64ths throughout, so that every fraction that is answered is exact.
 */
public final class LifeDrawer {
    public static final int NONE = -1;

    private static final int TAPE_MOST = 600;
    private static final int TEXT_MOST = 150;
    private static final int PAGE_MOST = 60;
    private static final int LIVES_MOST = 8;
    private static final int CLAUSES_MOST = 60;
    private static final int FACTS_MOST = 24;
    private static final int FACT_KINDS = 6;
    private static final int OPEN_MOST = 6;
    private static final int BEGUN_MOST = 200;
    private static final int WEEK_MOST = 200;
    private static final int AHEAD_MOST = 60;
    private static final int HOURS_MOST = 12;
    private static final int WORKS_MOST = 16;
    private static final int IMAGES_MOST = 3;
    private static final int PLAN_MOST = 3;
    private static final int OFTEN_MOST = 30;
    private static final int PRICE_MOST = 999;
    private static final int ROOM_MOST = 200;
    private static final int RUMOUR_ODDS = 16;
    private static final long ODDS = 64;
    private static final long RISK_BELOW = ODDS * ODDS;

    private static final int CANT_STAND = 1;
    private static final int NO_SUCH_NUMBER = 2;
    private static final int TOO_MANY = 3;
    private static final int FAULT_LESS = 10;
    private static final int WORKS_FULL = -20;

    private final Tape tape = new Tape();
    private final Told told = new Told();
    private final Told draft = new Told();
    private final Law law = new Law();
    private final Page page = new Page();
    private final Work work = new Work();
    private final Desk desk = new Desk(told, law);
    private final Plan plan = new Plan(desk);
    private final Seeds seeds = new Seeds(desk);
    private final Shelf here = new Shelf();
    private final Shelf[] images = new Shelf[IMAGES_MOST];
    private final int[] looks = new int[LIVES_MOST];
    private final int[] rooms = new int[ROOM_MOST + 1];
    private int imageCount;
    private int refusedSteps;
    private int noSuchCalls;
    private int badCalls;

    public LifeDrawer() {
        for (int i = 0; i < IMAGES_MOST; i++) {
            images[i] = new Shelf();
        }
        here.now.begin(told);
    }

    // ---- texts

    public int feed(int a, int b, int c, int d, int e) {
        if (tape.filled + 20 > TAPE_MOST) {
            return NONE;
        }
        tape.put(a);
        tape.put(b);
        tape.put(c);
        tape.put(d);
        tape.put(e);
        return tape.filled;
    }

    public int drawer(int n) throws IllegalArgumentException {
        openText(n, TAPE_MOST);
        if (!draft.read(tape)) {
            return tape.fault - FAULT_LESS;
        }
        told.copyFrom(draft);
        law.clear();
        page.clear();
        here.now.begin(told);
        here.works = 0;
        imageCount = 0;
        refusedSteps = 0;
        plan.forget();
        return told.lives;
    }

    public int law(int n) throws IllegalArgumentException {
        openText(n, TEXT_MOST);
        if (!law.read(tape)) {
            return tape.fault - FAULT_LESS;
        }
        plan.forget();
        return 1;
    }

    public int work(int n) throws IllegalArgumentException {
        openText(n, TEXT_MOST);
        if (here.works >= WORKS_MOST) {
            return WORKS_FULL;
        }
        if (!work.read(tape, told.lives)) {
            return tape.fault - FAULT_LESS;
        }
        here.keep();
        work.perform(desk, here.now, 0, work.size, 0);
        refusedSteps = work.refused;
        plan.forget();
        return work.done;
    }

    public int page(int n) throws IllegalArgumentException {
        openText(n, PAGE_MOST);
        if (!page.read(tape)) {
            return tape.fault - FAULT_LESS;
        }
        return page.size;
    }

    public int fault() {
        return tape.faultAt;
    }

    public int undo() {
        if (here.works <= 0) {
            return NONE;
        }
        here.goBack();
        refusedSteps = 0;
        plan.forget();
        return here.works;
    }

    // ---- what is told, and what is so now

    public int told(int what) throws IllegalArgumentException {
        needWithin(what, 0, 8);
        State now = here.now;
        switch (what) {
            case 0: return told.lives;
            case 1: return now.week;
            case 2: return now.hours;
            case 3: return told.lives - Integer.bitCount(now.dead);
            case 4: return now.pieces(told.lives);
            case 5: return now.lacked;
            case 6: return now.ran;
            case 7: return page.size;
            default: return refusedSteps;
        }
    }

    public int life(int life, int what) throws NoSuchElementException, IllegalArgumentException {
        needLife(life);
        needWithin(what, 0, 7);
        switch (what) {
            case 0: return desk.yearsWhen(here.now, life, 0);
            case 1: return told.odds[life];
            case 2: return told.worth[life];
            case 3: return told.hours[life];
            case 4: return told.renewHours(life);
            case 5: return here.now.isAlive(life) ? 0 : 1;
            case 6: return here.now.piece[life];
            default: return told.by[life];
        }
    }

    public int facts(int life) throws NoSuchElementException {
        needLife(life);
        return told.factBits(life, here.now.week);
    }

    public int wrong(int life) throws NoSuchElementException {
        needLife(life);
        int age = here.now.piece[life];
        return age == NONE ? NONE : desk.wrongWhen(here.now, life, 0, age);
    }

    public int would(int age, int years, int worth, int dead, int facts) throws IllegalArgumentException {
        needWithin(age, 0, 200);
        needWithin(years, 0, 200);
        needWithin(worth, 1, Told.WORTH_MOST);
        needWithin(dead, 0, 1);
        needWithin(facts, 0, FACTS_MOST);
        return law.outcome(age, years, worth, dead, facts);
    }

    public int lacking() {
        int bits = 0;
        for (int life = 0; life < told.lives; life++) {
            if (here.now.isAlive(life) && here.now.piece[life] == NONE) {
                bits |= 1 << life;
            }
        }
        return bits;
    }

    public int signed() {
        int bits = 0;
        for (int life = 0; life < told.lives; life++) {
            if (here.now.piece[life] != NONE && desk.signerDead(here.now, life) == 1) {
                bits |= 1 << life;
            }
        }
        return bits;
    }

    public int stale(int n) throws IllegalArgumentException {
        needWithin(n, 0, 65);
        return piecesWrongBy(n);
    }

    public int oldest() {
        int which = NONE;
        int age = NONE;
        for (int life = 0; life < told.lives; life++) {
            if (here.now.piece[life] > age) {
                age = here.now.piece[life];
                which = life;
            }
        }
        return which;
    }

    public int chain(int life, int what) throws NoSuchElementException, IllegalArgumentException {
        needLife(life);
        needWithin(what, 0, 1);
        int seen = 1 << life;
        int last = life;
        for (int i = 0; i < LIVES_MOST; i++) {
            int next = told.by[last];
            if (next < 0 || next >= told.lives || (seen >> next & 1) != 0) {
                break;
            }
            seen |= 1 << next;
            last = next;
        }
        return what == 0 ? Integer.bitCount(seen) : last;
    }

    // ---- losses on the mean

    public long loss(int part) throws IllegalArgumentException {
        needPart(part);
        return termOf(here.now.lost, ODDS, part);
    }

    public long cost(int life, int part) throws NoSuchElementException, IllegalArgumentException {
        needLife(life);
        needPart(part);
        if (!here.now.isAlive(life)) {
            return termOf(0, 1, part);
        }
        return termOf(desk.costWhen(here.now, life, 0, here.now.piece[life]), ODDS, part);
    }

    public long risk(int part) throws IllegalArgumentException {
        needPart(part);
        return termOf(desk.riskWhen(here.now, 0), RISK_BELOW, part);
    }

    public long saves(int life, int part) throws NoSuchElementException, IllegalArgumentException {
        needLife(life);
        needPart(part);
        long below = RISK_BELOW * desk.hoursFor(here.now, life);
        return termOf(desk.savedRisk(here.now, life), below, part);
    }

    public int first() {
        return desk.firstOfAll(here.now);
    }

    public long ahead(int weeks, int part) throws IllegalArgumentException {
        needWithin(weeks, 0, aheadMost());
        needPart(part);
        return termOf(desk.riskWhen(here.now, weeks), RISK_BELOW, part);
    }

    public int worst() {
        int which = 0;
        long most = NONE;
        for (int later = 0; later <= aheadMost(); later++) {
            long risk = desk.riskWhen(here.now, later);
            if (risk > most) {
                most = risk;
                which = later;
            }
        }
        return which;
    }

    public long lives(int life, int weeks, int part) throws NoSuchElementException, IllegalArgumentException {
        needLife(life);
        needWithin(weeks, 0, 8);
        needPart(part);
        if (!here.now.isAlive(life)) {
            return termOf(0, 1, part);
        }
        long above = 1;
        for (int i = 0; i < weeks; i++) {
            above *= ODDS - told.odds[life];
        }
        return termOf(above, 1L << 6 * weeks, part);
    }

    public int due(int life, int n) throws NoSuchElementException, IllegalArgumentException {
        needLife(life);
        needWithin(n, 0, 65);
        int age = here.now.piece[life];
        if (age == NONE) {
            return NONE;
        }
        for (int later = 0; later <= aheadMost(); later++) {
            if (desk.wrongWhen(here.now, life, later, age + later) >= n) {
                return later;
            }
        }
        return NONE;
    }

    public int news(int life) throws NoSuchElementException {
        needLife(life);
        return told.nextChange(life, here.now.week);
    }

    public long expects(int life, int n, int part) throws NoSuchElementException, IllegalArgumentException {
        needLife(life);
        needWithin(n, 0, 7);
        needPart(part);
        if (!here.now.isAlive(life)) {
            return termOf(0, 1, part);
        }
        return termOf(desk.lossAhead(here.now, life, n, 0), 1L << 6 * (n + 1), part);
    }

    // ---- the best weeks, and how often to renew

    public long best(int n, int part) throws IllegalArgumentException {
        needWithin(n, 1, PLAN_MOST);
        needPart(part);
        plan.prepare(here.now, n);
        return termOf(plan.leastLoss(), 1L << 6 * (n + 1), part);
    }

    public int bestIn(int n, int k) throws IllegalArgumentException {
        needWithin(n, 1, PLAN_MOST);
        needWithin(k, 0, n - 1);
        plan.prepare(here.now, n);
        return plan.writtenIn(k);
    }

    public int often(int life, int c) throws NoSuchElementException, IllegalArgumentException {
        needLife(life);
        needWithin(c, 0, PRICE_MOST);
        long risks = 0;
        long least = 0;
        int which = 0;
        for (int k = 1; k <= OFTEN_MOST; k++) {
            risks += desk.riskAtAge(here.now, life, k - 1);
            long all = risks + renewalPrice(life, c);
            if (which == 0 || all * which < least * k) {
                least = all;
                which = k;
            }
        }
        return which;
    }

    public long yearly(int life, int c, int k, int part) throws NoSuchElementException, IllegalArgumentException {
        needLife(life);
        needWithin(c, 0, PRICE_MOST);
        needWithin(k, 1, OFTEN_MOST);
        needPart(part);
        long all = renewalPrice(life, c);
        for (int age = 0; age < k; age++) {
            all += desk.riskAtAge(here.now, life, age);
        }
        return termOf(all, RISK_BELOW * k, part);
    }

    // ---- a rumour

    public int brings(int t, int b, int v, int x, int y, int way) throws IllegalArgumentException {
        needWithin(t, 0, RUMOUR_ODDS);
        needRumour(b, v, x, y);
        needWithin(way, 0, 2);
        return meanOf(t, b, v, x, y, way);
    }

    public int says(int t, int b, int v, int x, int y) throws IllegalArgumentException {
        needWithin(t, 0, RUMOUR_ODDS);
        needRumour(b, v, x, y);
        return bestWay(t, b, v, x, y);
    }

    public int line(int b, int v, int x, int y) throws IllegalArgumentException {
        needRumour(b, v, x, y);
        for (int t = 0; t <= RUMOUR_ODDS; t++) {
            if (bestWay(t, b, v, x, y) == 0) {
                return t;
            }
        }
        return NONE;
    }

    // ---- room on a page

    public int room(int lives, int r) throws IllegalArgumentException {
        needBits(lives);
        needWithin(r, 0, ROOM_MOST);
        return roomWorth(fillRoom(lives, r));
    }

    public int lines(int lives, int r, int life) throws NoSuchElementException, IllegalArgumentException {
        needLife(life);
        needBits(lives);
        needWithin(r, 0, ROOM_MOST);
        int filled = fillRoom(lives, r);
        int ways = (roomWorth(filled) << 16) - filled;
        int way = ways >> roomShift(life) & 3;
        if (way == 0) {
            return 0;
        }
        return way == 1 ? 3 : told.worth[life];
    }

    // ---- facts

    public int apart(int lives, int what) throws IllegalArgumentException {
        needBits(lives);
        needWithin(what, 0, 1);
        look();
        int which = NONE;
        int fewest = FACT_KINDS + 1;
        for (int kinds = 0; kinds < 1 << FACT_KINDS; kinds++) {
            int many = Integer.bitCount(kinds);
            if (many < fewest && tellsApart(lives, kinds)) {
                fewest = many;
                which = kinds;
            }
        }
        return which == NONE || what == 1 ? which : fewest;
    }

    public int twins() {
        look();
        for (int one = 0; one < told.lives; one++) {
            for (int other = one + 1; other < told.lives; other++) {
                if (looks[one] == looks[other]) {
                    return 10 * one + other;
                }
            }
        }
        return NONE;
    }

    public long written(int life) throws NoSuchElementException {
        needLife(life);
        return weeksAsPage(life);
    }

    public int whose() {
        int bits = 0;
        for (int life = 0; life < told.lives; life++) {
            if (weeksAsPage(life) != 0) {
                bits |= 1 << life;
            }
        }
        return bits;
    }

    // ---- years by seeds

    public int years(int seed, int weeks, int what) throws IllegalArgumentException {
        needWithin(weeks, 1, AHEAD_MOST);
        needWithin(what, 0, 4);
        seeds.play(here.now, seed, weeks);
        switch (what) {
            case 0: return told.lives - Integer.bitCount(seeds.state.dead);
            case 1: return seeds.state.lacked;
            case 2: return seeds.state.ran;
            case 3: return seeds.written;
            default: return (int) (seeds.state.lost / ODDS);
        }
    }

    public int span(int seed, int many, int weeks, int what, int life) throws IllegalArgumentException {
        needWithin(many, 1, 20);
        needWithin(weeks, 1, AHEAD_MOST);
        needWithin(what, 0, 3);
        needWithin(life, 0, told.lives - 1);
        int fewest = LIVES_MOST;
        int most = 0;
        int all = 0;
        int alive = 0;
        for (int i = 0; i < many; i++) {
            seeds.play(here.now, seed + i, weeks);
            int lacked = seeds.state.lacked;
            fewest = Math.min(fewest, lacked);
            most = Math.max(most, lacked);
            all += lacked;
            alive += seeds.state.isAlive(life) ? 1 : 0;
        }
        switch (what) {
            case 0: return fewest;
            case 1: return most;
            case 2: return all;
            default: return alive;
        }
    }

    // ---- images and counts

    public int image() {
        if (imageCount >= IMAGES_MOST) {
            return NONE;
        }
        images[imageCount].copyFrom(here);
        imageCount++;
        return imageCount;
    }

    public int restore() {
        if (imageCount <= 0) {
            return NONE;
        }
        imageCount--;
        here.copyFrom(images[imageCount]);
        refusedSteps = 0;
        plan.forget();
        return imageCount;
    }

    public int status(int what) {
        switch (what) {
            case 0: return noSuchCalls;
            case 1: return badCalls;
            default: return NONE;
        }
    }

    public int count(int what) {
        switch (what) {
            case 0: return imageCount;
            case 1: return tape.filled;
            case 2: return here.works;
            default: return NONE;
        }
    }

    // ---- refusals

    private void needLife(int life) {
        if (life < 0 || life >= told.lives) {
            noSuchCalls++;
            throw new NoSuchElementException("no such life");
        }
    }

    private void needWithin(int value, int least, int most) {
        if (value < least || value > most) {
            badCalls++;
            throw new IllegalArgumentException("not within its bounds");
        }
    }

    private void needPart(int part) {
        needWithin(part, 0, 1);
    }

    private void needBits(int lives) {
        needWithin(lives, 0, (1 << told.lives) - 1);
    }

    private void needRumour(int b, int v, int x, int y) {
        needWithin(b, 0, RUMOUR_ODDS);
        needWithin(v, 0, PRICE_MOST);
        needWithin(x, 0, PRICE_MOST);
        needWithin(y, 0, PRICE_MOST);
    }

    private void openText(int n, int most) {
        needWithin(n, 0, Math.min(most, tape.filled));
        tape.open(n);
    }

    // ---- helpers of the face

    private int aheadMost() {
        return Math.min(AHEAD_MOST, WEEK_MOST - here.now.week);
    }

    private int piecesWrongBy(int n) {
        int bits = 0;
        for (int life = 0; life < told.lives; life++) {
            int age = here.now.piece[life];
            if (age != NONE && desk.wrongWhen(here.now, life, 0, age) >= n) {
                bits |= 1 << life;
            }
        }
        return bits;
    }

    private long renewalPrice(int life, int c) {
        return RISK_BELOW * c * told.renewHours(life);
    }

    private static int meanOf(int t, int b, int v, int x, int y, int way) {
        switch (way) {
            case 0: return RUMOUR_ODDS * (t * v - (RUMOUR_ODDS - t) * x);
            case 1: return RUMOUR_ODDS * (t * v - (RUMOUR_ODDS - t) * y);
            default: return t * (RUMOUR_ODDS - b) * v;
        }
    }

    private static int bestWay(int t, int b, int v, int x, int y) {
        int which = 0;
        int most = meanOf(t, b, v, x, y, 0);
        for (int way = 1; way <= 2; way++) {
            int mean = meanOf(t, b, v, x, y, way);
            if (mean > most) {
                most = mean;
                which = way;
            }
        }
        return which;
    }

    /**
     * The most worth, shifted by 16, less the ways it is reached by, two bits a life with life 0
     * the highest: so one comparison settles both the worth and, of alike ones, the first.
     */
    private int fillRoom(int lives, int r) {
        Arrays.fill(rooms, 0);
        for (int life = 0; life < told.lives; life++) {
            if ((lives >> life & 1) != 0) {
                addToRoom(life, r);
            }
        }
        return r >= 0 && r < rooms.length ? rooms[r] : 0;
    }

    private void addToRoom(int life, int r) {
        int worth = told.worth[life];
        int step = 1 << roomShift(life);
        // from above, so that what is read has not met this life yet
        for (int all = Math.min(r, ROOM_MOST); all >= 0; all--) {
            int most = rooms[all];
            if (all >= 3) {
                most = Math.max(most, rooms[all - 3] + (worth << 16) - step);
            }
            if (all >= worth) {
                most = Math.max(most, rooms[all - worth] + (3 * worth << 16) - 2 * step);
            }
            rooms[all] = most;
        }
    }

    private static int roomShift(int life) {
        return 2 * (LIVES_MOST - 1 - life);
    }

    private static int roomWorth(int filled) {
        return filled + 0xffff >> 16;
    }

    private void look() {
        for (int life = 0; life < told.lives; life++) {
            looks[life] = told.factBits(life, here.now.week);
        }
    }

    private boolean tellsApart(int lives, int kinds) {
        for (int one = 0; one < told.lives; one++) {
            for (int other = one + 1; other < told.lives; other++) {
                boolean both = (lives >> one & lives >> other & 1) != 0;
                if (both && ((looks[one] ^ looks[other]) & kinds) == 0) {
                    return false;
                }
            }
        }
        return true;
    }

    private long weeksAsPage(int life) {
        long weeks = 0;
        for (int week = 0; week <= AHEAD_MOST; week++) {
            if (page.fits(told.factBits(life, week))) {
                weeks |= 1L << week;
            }
        }
        return weeks;
    }

    /** One part of a fraction in least terms; above is 0 or more. */
    private static long termOf(long above, long below, int part) {
        long one = above;
        long other = below;
        // Euclid's way takes fewer than a hundred turns for any two longs
        for (int i = 0; i < 200 && one != 0; i++) {
            long left = other % one;
            other = one;
            one = left;
        }
        long common = other > 0 ? other : 1;
        return (part == 0 ? above : below) / common;
    }

    /** The bytes that were fed, and the text that is read from them from the left, with its first fault. */
    static final class Tape {
        private static final int BIG = 1_000_000;

        final byte[] bytes = new byte[TAPE_MOST];
        int filled;
        int length;
        int place;
        int fault;
        int faultAt = NONE;

        void put(int number) {
            for (int shift = 24; shift >= 0 && filled < TAPE_MOST; shift -= 8) {
                bytes[filled] = (byte) (number >> shift);
                filled++;
            }
        }

        /** The bytes stay readable until the next feed, though the tape counts as empty. */
        void open(int n) {
            length = n;
            place = 0;
            filled = 0;
            fault = 0;
            faultAt = NONE;
        }

        /** Only the first fault is kept, so a reader may look for one behind several numbers. */
        boolean fail(int kind, int at) {
            if (fault == 0) {
                fault = kind;
                faultAt = at;
            }
            return false;
        }

        boolean failed() {
            return fault != 0;
        }

        /** The byte behind blanks; NONE at the end. */
        int peek() {
            while (place < length && bytes[place] == ' ') {
                place++;
            }
            return place < length ? bytes[place] & 255 : NONE;
        }

        int nextPlace() {
            peek();
            return place;
        }

        boolean takeSign(int sign) {
            if (peek() != sign) {
                return fail(CANT_STAND, place);
            }
            place++;
            return true;
        }

        int takeNumber(int least, int most) {
            int start = nextPlace();
            int value = 0;
            while (place < length && bytes[place] >= '0' && bytes[place] <= '9') {
                value = Math.min(BIG, value * 10 + bytes[place] - '0');
                place++;
            }
            if (place == start) {
                fail(CANT_STAND, start);
                return NONE;
            }
            if (value < least || value > most) {
                fail(NO_SUCH_NUMBER, start);
                return NONE;
            }
            return value;
        }

        /** Which of some words stands here, each of them told with a blank behind it. */
        int takeWord(String words) {
            int start = nextPlace();
            int end = start;
            while (end < length && bytes[end] >= 'a' && bytes[end] <= 'z') {
                end++;
            }
            int which = find(words, start, end);
            if (which == NONE) {
                fail(CANT_STAND, start);
                return NONE;
            }
            place = end;
            return which;
        }

        private int find(String words, int start, int end) {
            int which = 0;
            int at = start;
            boolean same = true;
            for (int i = 0; i < words.length(); i++) {
                char letter = words.charAt(i);
                if (letter != ' ') {
                    same = same && at < end && bytes[at] == letter;
                    at++;
                } else if (same && at == end) {
                    return which;
                } else {
                    which++;
                    at = start;
                    same = true;
                }
            }
            return NONE;
        }
    }

    /** A drawer as its text tells it; weeks do not change it. */
    static final class Told {
        static final int WORTH_MOST = 99;

        private static final String CLAUSES = "life has by fact hours lack wrong half ";
        private static final int LIFE = 0;
        private static final int HAS = 1;
        private static final int BY = 2;
        private static final int FACT = 3;
        private static final int HOURS = 4;
        private static final int LACK = 5;
        private static final int WRONG = 6;

        final int[] age = new int[LIVES_MOST];
        final int[] odds = new int[LIVES_MOST];
        final int[] worth = new int[LIVES_MOST];
        final int[] hours = new int[LIVES_MOST];
        final int[] has = new int[LIVES_MOST];
        final int[] by = new int[LIVES_MOST];
        final int[] factLife = new int[FACTS_MOST];
        final int[] factKind = new int[FACTS_MOST];
        final int[] factWeek = new int[FACTS_MOST];
        int lives;
        int changes;
        int weekHours;
        int lackPrice;
        int wrongPrice;
        int half;

        Told() {
            clear();
        }

        void clear() {
            lives = 0;
            changes = 0;
            weekHours = 8;
            lackPrice = 5;
            wrongPrice = 3;
            half = 2;
        }

        void copyFrom(Told other) {
            System.arraycopy(other.age, 0, age, 0, LIVES_MOST);
            System.arraycopy(other.odds, 0, odds, 0, LIVES_MOST);
            System.arraycopy(other.worth, 0, worth, 0, LIVES_MOST);
            System.arraycopy(other.hours, 0, hours, 0, LIVES_MOST);
            System.arraycopy(other.has, 0, has, 0, LIVES_MOST);
            System.arraycopy(other.by, 0, by, 0, LIVES_MOST);
            System.arraycopy(other.factLife, 0, factLife, 0, FACTS_MOST);
            System.arraycopy(other.factKind, 0, factKind, 0, FACTS_MOST);
            System.arraycopy(other.factWeek, 0, factWeek, 0, FACTS_MOST);
            lives = other.lives;
            changes = other.changes;
            weekHours = other.weekHours;
            lackPrice = other.lackPrice;
            wrongPrice = other.wrongPrice;
            half = other.half;
        }

        boolean read(Tape tape) {
            clear();
            for (int clauses = 0; clauses <= CLAUSES_MOST; clauses++) {
                if (tape.peek() == NONE) {
                    return true;
                }
                if (!readClause(tape, clauses) || !tape.takeSign(';')) {
                    return false;
                }
            }
            return tape.fail(TOO_MANY, tape.place);
        }

        private boolean readClause(Tape tape, int before) {
            int start = tape.nextPlace();
            int kind = tape.takeWord(CLAUSES);
            if (kind == NONE) {
                return false;
            }
            boolean full = before >= CLAUSES_MOST
                    || kind == LIFE && lives >= LIVES_MOST
                    || kind == FACT && changes >= FACTS_MOST;
            if (full) {
                return tape.fail(TOO_MANY, start);
            }
            switch (kind) {
                case LIFE: return readLife(tape);
                case HAS: return readHas(tape);
                case BY: return readBy(tape);
                case FACT: return readFact(tape);
                default: return readRule(tape, kind);
            }
        }

        private boolean readLife(Tape tape) {
            int years = tape.takeNumber(0, 110);
            int dies = tape.takeNumber(0, 64);
            int lines = tape.takeNumber(1, WORTH_MOST);
            int takes = tape.takeNumber(1, 9);
            if (tape.failed() || lives >= LIVES_MOST) {
                return false;
            }
            age[lives] = years;
            odds[lives] = dies;
            worth[lives] = lines;
            hours[lives] = takes;
            has[lives] = NONE;
            by[lives] = NONE;
            lives++;
            return true;
        }

        private boolean readHas(Tape tape) {
            int life = tape.takeNumber(0, lives - 1);
            int weeks = tape.takeNumber(0, 40);
            if (tape.failed() || life < 0) {
                return false;
            }
            has[life] = weeks;
            return true;
        }

        private boolean readBy(Tape tape) {
            int life = tape.takeNumber(0, lives - 1);
            int start = tape.nextPlace();
            int writer = tape.takeNumber(0, lives - 1);
            if (writer == life) {
                tape.fail(NO_SUCH_NUMBER, start);
            }
            if (tape.failed() || life < 0) {
                return false;
            }
            by[life] = writer;
            return true;
        }

        private boolean readFact(Tape tape) {
            int life = tape.takeNumber(0, lives - 1);
            int kind = tape.takeNumber(0, FACT_KINDS - 1);
            int week = tape.takeNumber(1, 60);
            if (tape.failed() || changes >= FACTS_MOST) {
                return false;
            }
            factLife[changes] = life;
            factKind[changes] = kind;
            factWeek[changes] = week;
            changes++;
            return true;
        }

        private boolean readRule(Tape tape, int kind) {
            switch (kind) {
                case HOURS: weekHours = tape.takeNumber(1, HOURS_MOST); break;
                case LACK: lackPrice = tape.takeNumber(0, 9); break;
                case WRONG: wrongPrice = tape.takeNumber(0, 9); break;
                default: half = tape.takeNumber(1, 4); break;
            }
            return !tape.failed();
        }

        int renewHours(int life) {
            int parts = half > 0 ? half : 1;
            return Math.max(1, hours[life] / parts);
        }

        /** How many changes of a life fall behind one week and up to another. */
        int changesBetween(int life, int behind, int upTo) {
            int many = 0;
            for (int i = 0; i < changes; i++) {
                if (factLife[i] == life && factWeek[i] > behind && factWeek[i] <= upTo) {
                    many++;
                }
            }
            return many;
        }

        int factBits(int life, int week) {
            int bits = 0;
            for (int i = 0; i < changes; i++) {
                if (factLife[i] == life && factWeek[i] <= week) {
                    bits ^= 1 << factKind[i];
                }
            }
            return bits;
        }

        int nextChange(int life, int week) {
            int next = NONE;
            for (int i = 0; i < changes; i++) {
                boolean comes = factLife[i] == life && factWeek[i] > week;
                if (comes && (next == NONE || factWeek[i] < next)) {
                    next = factWeek[i];
                }
            }
            return next;
        }
    }

    /** By how many of 64 a piece is wrong: kept with operators behind what they join, 0 and more a number. */
    static final class Law {
        private static final String WORDS = "age years worth dead facts least most ";
        private static final int LEAST_WORD = 5;
        private static final int AGE = -1;
        private static final int YEARS = -2;
        private static final int WORTH = -3;
        private static final int DEAD = -4;
        private static final int FACTS = -5;
        private static final int LEAST = -6;
        private static final int MOST = -7;
        private static final int PLUS = -8;
        private static final int LESS = -9;
        private static final int TIMES = -10;
        private static final int BY = -11;
        // each open sign holds back a sum, a product and a first of two at most
        private static final int STACK_MOST = 3 * (OPEN_MOST + 2);

        final int[] code = new int[TEXT_MOST];
        final int[] fresh = new int[TEXT_MOST];
        final int[] stack = new int[STACK_MOST];
        int size;
        int freshSize;

        Law() {
            clear();
        }

        void clear() {
            code[0] = AGE;
            code[1] = AGE;
            code[2] = PLUS;
            size = 3;
        }

        boolean read(Tape tape) {
            freshSize = 0;
            if (!readSum(tape, 0)) {
                return false;
            }
            if (tape.peek() != NONE) {
                return tape.fail(CANT_STAND, tape.place);
            }
            System.arraycopy(fresh, 0, code, 0, TEXT_MOST);
            size = freshSize;
            return true;
        }

        private boolean readSum(Tape tape, int open) {
            boolean read = readProduct(tape, open);
            for (int i = 0; i < TEXT_MOST && read; i++) {
                int sign = tape.peek();
                if (sign != '+' && sign != '-') {
                    return true;
                }
                tape.place++;
                read = readProduct(tape, open);
                emit(sign == '+' ? PLUS : LESS);
            }
            return read;
        }

        private boolean readProduct(Tape tape, int open) {
            boolean read = readUnit(tape, open);
            for (int i = 0; i < TEXT_MOST && read; i++) {
                int sign = tape.peek();
                if (sign != '*' && sign != '/') {
                    return true;
                }
                tape.place++;
                read = readUnit(tape, open);
                emit(sign == '*' ? TIMES : BY);
            }
            return read;
        }

        private boolean readUnit(Tape tape, int open) {
            int sign = tape.peek();
            int start = tape.place;
            if (sign == '(') {
                if (open >= OPEN_MOST) {
                    return tape.fail(TOO_MANY, start);
                }
                tape.place++;
                return readSum(tape, open + 1) && tape.takeSign(')');
            }
            if (sign >= '0' && sign <= '9') {
                emit(tape.takeNumber(0, 999));
                return !tape.failed();
            }
            int word = tape.takeWord(WORDS);
            if (word == NONE) {
                return false;
            }
            if (word >= LEAST_WORD) {
                if (open >= OPEN_MOST) {
                    return tape.fail(TOO_MANY, start);
                }
                if (!readTwo(tape, open + 1)) {
                    return false;
                }
            }
            emit(AGE - word);
            return true;
        }

        private boolean readTwo(Tape tape, int open) {
            return tape.takeSign('[') && readSum(tape, open) && tape.takeSign(',')
                    && readSum(tape, open) && tape.takeSign(']');
        }

        private void emit(int what) {
            if (freshSize < TEXT_MOST) {
                fresh[freshSize] = what;
                freshSize++;
            }
        }

        int outcome(int age, int years, int worth, int dead, int facts) {
            int top = 0;
            for (int i = 0; i < size && top < STACK_MOST; i++) {
                int what = code[i];
                if (what <= LEAST && top >= 2) {
                    top--;
                    stack[top - 1] = joined(what, stack[top - 1], stack[top]);
                    continue;
                }
                switch (what) {
                    case AGE: stack[top] = age; break;
                    case YEARS: stack[top] = years; break;
                    case WORTH: stack[top] = worth; break;
                    case DEAD: stack[top] = dead; break;
                    case FACTS: stack[top] = facts; break;
                    default: stack[top] = what; break;
                }
                top++;
            }
            return Math.max(0, Math.min(64, stack[0]));
        }

        private static int joined(int what, int one, int other) {
            switch (what) {
                case LEAST: return one < other ? one : other;
                case MOST: return one > other ? one : other;
                case PLUS: return one + other;
                case LESS: return one - other;
                case TIMES: return one * other;
                default: return other == 0 ? 0 : one / other;
            }
        }
    }

    /** What a piece says of facts, as bits. */
    static final class Page {
        int size;
        int kinds;
        int others;

        void clear() {
            size = 0;
            kinds = 0;
            others = 0;
        }

        boolean read(Tape tape) {
            int seen = 0;
            int bits = 0;
            // a seventh line would have its fact twice, so the bound is never met
            for (int i = 0; i <= FACT_KINDS && tape.peek() != NONE; i++) {
                int start = tape.nextPlace();
                int kind = tape.takeNumber(0, FACT_KINDS - 1);
                if (kind >= 0 && (seen >> kind & 1) != 0) {
                    tape.fail(NO_SUCH_NUMBER, start);
                }
                int other = tape.takeNumber(0, 1);
                tape.takeSign(';');
                if (tape.failed()) {
                    return false;
                }
                seen |= 1 << kind;
                bits |= other << kind;
            }
            size = Integer.bitCount(seen);
            kinds = seen;
            others = bits;
            return true;
        }

        boolean fits(int factBits) {
            return ((factBits ^ others) & kinds) == 0;
        }
    }

    /** What weeks change. */
    static final class State {
        final int[] piece = new int[LIVES_MOST];
        int dead;
        int week;
        int hours;
        int lacked;
        int ran;
        long lost;

        void begin(Told told) {
            System.arraycopy(told.has, 0, piece, 0, LIVES_MOST);
            dead = 0;
            week = 0;
            hours = told.weekHours;
            lacked = 0;
            ran = 0;
            lost = 0;
        }

        void copyFrom(State other) {
            System.arraycopy(other.piece, 0, piece, 0, LIVES_MOST);
            dead = other.dead;
            week = other.week;
            hours = other.hours;
            lacked = other.lacked;
            ran = other.ran;
            lost = other.lost;
        }

        boolean isAlive(int life) {
            return (dead >> life & 1) == 0;
        }

        int pieces(int lives) {
            int many = 0;
            for (int life = 0; life < lives && life < LIVES_MOST; life++) {
                many += piece[life] == NONE ? 0 : 1;
            }
            return many;
        }
    }

    /** The state now, and how it was ahead of each work that can be undone. */
    static final class Shelf {
        final State now = new State();
        final State[] before = new State[WORKS_MOST];
        int works;

        Shelf() {
            for (int i = 0; i < WORKS_MOST; i++) {
                before[i] = new State();
            }
        }

        void keep() {
            if (works >= 0 && works < WORKS_MOST) {
                before[works].copyFrom(now);
                works++;
            }
        }

        void goBack() {
            if (works > 0 && works <= WORKS_MOST) {
                works--;
                now.copyFrom(before[works]);
            }
        }

        void copyFrom(Shelf other) {
            now.copyFrom(other.now);
            works = other.works;
            for (int i = 0; i < works && i < WORKS_MOST; i++) {
                before[i].copyFrom(other.before[i]);
            }
        }
    }

    /** What steps do to a state, and what deaths in it would cost. */
    static final class Desk {
        final Told told;
        final Law law;
        private final long[] saved = new long[LIVES_MOST];

        Desk(Told told, Law law) {
            this.told = told;
            this.law = law;
        }

        int yearsWhen(State state, int life, int later) {
            return told.age[life] + (state.week + later) / 52;
        }

        int signerDead(State state, int life) {
            int writer = told.by[life];
            return writer >= 0 && !state.isAlive(writer) ? 1 : 0;
        }

        /** How wrong a piece is that is so old in so many weeks. */
        int wrongWhen(State state, int life, int later, int age) {
            int week = state.week + later;
            int changed = told.changesBetween(life, week - age, week);
            return law.outcome(age, yearsWhen(state, life, later), told.worth[life], signerDead(state, life), changed);
        }

        /** In 64ths: what a death in so many weeks would lose, the piece being so old then, or NONE. */
        long costWhen(State state, int life, int later, int age) {
            if (age == NONE) {
                return ODDS * told.lackPrice * told.worth[life];
            }
            return (long) told.wrongPrice * told.worth[life] * wrongWhen(state, life, later, age);
        }

        /** In 4096ths: the risk of all who are alive, nothing being done for so many weeks. */
        long riskWhen(State state, int later) {
            long all = 0;
            for (int life = 0; life < told.lives; life++) {
                if (state.isAlive(life)) {
                    int piece = state.piece[life];
                    int age = piece == NONE ? NONE : piece + later;
                    all += told.odds[life] * costWhen(state, life, later, age);
                }
            }
            return all;
        }

        /** In 4096ths: the risk of a life whose piece is so old, its facts being as they were. */
        long riskAtAge(State state, int life, int age) {
            int worth = told.worth[life];
            int wrong = law.outcome(age, yearsWhen(state, life, 0), worth, signerDead(state, life), 0);
            return (long) told.odds[life] * told.wrongPrice * worth * wrong;
        }

        int hoursFor(State state, int life) {
            return state.piece[life] == NONE ? told.hours[life] : told.renewHours(life);
        }

        boolean canBePut(State state, int life) {
            return state.isAlive(life) && state.piece[life] != 0;
        }

        /** In 4096ths: how much less the risk would be by a piece written or renewed now. */
        long savedRisk(State state, int life) {
            if (!canBePut(state, life) || told.odds[life] == 0) {
                return 0;
            }
            long less = costWhen(state, life, 0, state.piece[life]) - costWhen(state, life, 0, 0);
            return Math.max(0, told.odds[life] * less);
        }

        int firstOfAll(State state) {
            for (int life = 0; life < told.lives; life++) {
                saved[life] = savedRisk(state, life);
            }
            // no piece takes more hours than the longest week has
            return firstOf(state, saved, HOURS_MOST);
        }

        /** Who saves the most by the hour, of those whose hours are no more than some. */
        int firstOf(State state, long[] saved, int hoursMost) {
            int which = NONE;
            long most = 0;
            int mostHours = 1;
            for (int life = 0; life < told.lives && life < saved.length; life++) {
                int hours = hoursFor(state, life);
                if (hours <= hoursMost && saved[life] * mostHours > most * hours) {
                    which = life;
                    most = saved[life];
                    mostHours = hours;
                }
            }
            return which;
        }

        boolean putPiece(State state, int life) {
            int hours = hoursFor(state, life);
            if (!canBePut(state, life) || hours > state.hours) {
                return false;
            }
            state.hours -= hours;
            state.piece[life] = 0;
            return true;
        }

        boolean letDie(State state, int life) {
            if (!state.isAlive(life)) {
                return false;
            }
            state.lost += costWhen(state, life, 0, state.piece[life]);
            if (state.piece[life] == NONE) {
                state.lacked++;
                state.hours = Math.max(0, state.hours - 2);
            } else {
                state.ran++;
                state.piece[life] = NONE;
            }
            state.dead |= 1 << life;
            return true;
        }

        boolean passWeek(State state) {
            if (state.week >= WEEK_MOST) {
                return false;
            }
            state.week++;
            state.hours = told.weekHours;
            for (int life = 0; life < told.lives; life++) {
                if (state.piece[life] != NONE) {
                    state.piece[life]++;
                }
            }
            return true;
        }

        /**
         * What a life loses on the mean in n weeks, this one first, by 64 to the n and 1; its piece
         * is put in the weeks whose bits are told.
         */
        long lossAhead(State state, int life, int n, int weeks) {
            long dies = told.odds[life];
            long stillAlive = 1;
            long loss = 0;
            int age = state.piece[life];
            for (int later = 0; later < n; later++) {
                if ((weeks >> later & 1) != 0) {
                    age = 0;
                }
                loss = loss * ODDS + stillAlive * dies * costWhen(state, life, later, age);
                stillAlive *= ODDS - dies;
                age = age == NONE ? NONE : age + 1;
            }
            return loss;
        }
    }

    /** Steps, in the order in which they stand; an again knows where its steps end. */
    static final class Work {
        private static final String WORDS = "write renew die week again ";
        private static final int WRITE = 0;
        private static final int RENEW = 1;
        private static final int DIE = 2;
        private static final int WEEK = 3;
        private static final int AGAIN = 4;

        final int[] kind = new int[TEXT_MOST];
        final int[] number = new int[TEXT_MOST];
        final int[] end = new int[TEXT_MOST];
        int size;
        int begun;
        int done;
        int refused;

        boolean read(Tape tape, int lives) {
            size = 0;
            begun = 0;
            done = 0;
            refused = 0;
            return readSteps(tape, lives, 0);
        }

        private boolean readSteps(Tape tape, int lives, int open) {
            int last = open == 0 ? NONE : ']';
            for (int i = 0; i < TEXT_MOST; i++) {
                if (tape.peek() == last) {
                    return true;
                }
                if (!readStep(tape, lives, open) || !tape.takeSign(';')) {
                    return false;
                }
            }
            return true;
        }

        private boolean readStep(Tape tape, int lives, int open) {
            int start = tape.nextPlace();
            int word = tape.takeWord(WORDS);
            if (word == NONE || size >= TEXT_MOST) {
                return false;
            }
            int at = size;
            size++;
            kind[at] = word;
            if (word == AGAIN) {
                return open >= OPEN_MOST ? tape.fail(TOO_MANY, start) : readAgain(tape, lives, open + 1, at);
            }
            number[at] = word == WEEK ? 0 : tape.takeNumber(0, lives - 1);
            return !tape.failed();
        }

        private boolean readAgain(Tape tape, int lives, int open, int at) {
            number[at] = tape.takeNumber(0, 20);
            if (tape.failed() || !tape.takeSign('[') || !readSteps(tape, lives, open) || !tape.takeSign(']')) {
                return false;
            }
            end[at] = size;
            return true;
        }

        void perform(Desk desk, State state, int from, int to, int open) {
            int at = from;
            while (at < to && at < TEXT_MOST && begun < BEGUN_MOST && open <= OPEN_MOST) {
                begun++;
                if (kind[at] == AGAIN) {
                    for (int i = 0; i < number[at] && begun < BEGUN_MOST; i++) {
                        perform(desk, state, at + 1, end[at], open + 1);
                    }
                    at = Math.max(at + 1, end[at]);
                } else {
                    if (performStep(desk, state, kind[at], number[at])) {
                        done++;
                    } else {
                        refused++;
                    }
                    at++;
                }
            }
        }

        private static boolean performStep(Desk desk, State state, int kind, int life) {
            switch (kind) {
                case WRITE: return state.piece[life] == NONE && desk.putPiece(state, life);
                case RENEW: return state.piece[life] != NONE && desk.putPiece(state, life);
                case DIE: return desk.letDie(state, life);
                default: return desk.passWeek(state);
            }
        }
    }

    /** The best weeks: hours in each week are shared out among lives, life by life. */
    static final class Plan {
        private static final int SIDE = HOURS_MOST + 1;
        private static final int WAYS = 1 << PLAN_MOST;
        private static final int KEY_BITS = PLAN_MOST * LIVES_MOST;
        private static final int NEVER = 99;

        private final Desk desk;
        /** For hours that may be spent: the least loss, and below it, week by week, who is written. */
        private final long[] cells = new long[SIDE * SIDE * SIDE];
        private final long[] value = new long[WAYS];
        private final int[] need = new int[WAYS * PLAN_MOST];
        private final int[] most = new int[PLAN_MOST];
        private int plannedWeeks;
        private long planned;

        Plan(Desk desk) {
            this.desk = desk;
        }

        void forget() {
            plannedWeeks = 0;
        }

        /** By 64 to as many as there are weeks, and 1. */
        long leastLoss() {
            return planned >> KEY_BITS;
        }

        int writtenIn(int week) {
            return (int) (planned >> keyShift(week)) & 255;
        }

        private static int keyShift(int week) {
            return LIVES_MOST * (PLAN_MOST - 1 - week);
        }

        /** What was prepared stays, till it is to be forgotten: it is asked for part by part. */
        void prepare(State state, int n) {
            if (plannedWeeks == n) {
                return;
            }
            Arrays.fill(cells, 0L);
            for (int week = 0; week < PLAN_MOST; week++) {
                int there = week == 0 ? state.hours : desk.told.weekHours;
                most[week] = week < n ? Math.max(0, Math.min(HOURS_MOST, there)) : 0;
            }
            for (int life = 0; life < desk.told.lives; life++) {
                // who can't die loses nothing, and the least bits leave him out
                if (state.isAlive(life) && desk.told.odds[life] > 0) {
                    weighWays(state, life, n);
                    addLife(1 << n);
                }
            }
            planned = cells[cellOf(most[0], most[1], most[2])];
            plannedWeeks = n;
        }

        private static int cellOf(int one, int two, int three) {
            return (one * SIDE + two) * SIDE + three;
        }

        private void weighWays(State state, int life, int n) {
            for (int way = 0; way < 1 << n && way < WAYS; way++) {
                long key = 0;
                int age = state.piece[life];
                for (int week = 0; week < PLAN_MOST; week++) {
                    boolean put = (way >> week & 1) != 0;
                    need[way * PLAN_MOST + week] = put ? hoursAtAge(life, age) : 0;
                    if (put) {
                        key |= 1L << keyShift(week) + life;
                        age = 0;
                    }
                    age = age == NONE ? NONE : age + 1;
                }
                value[way] = (desk.lossAhead(state, life, n, way) << KEY_BITS) + key;
            }
        }

        private int hoursAtAge(int life, int age) {
            if (age == 0) {
                return NEVER;
            }
            return age == NONE ? desk.told.hours[life] : desk.told.renewHours(life);
        }

        private void addLife(int ways) {
            // from above, so that what is read has not met this life yet
            for (int one = most[0]; one >= 0; one--) {
                for (int two = most[1]; two >= 0; two--) {
                    for (int three = most[2]; three >= 0; three--) {
                        cells[cellOf(one, two, three)] = leastOf(ways, one, two, three);
                    }
                }
            }
        }

        private long leastOf(int ways, int one, int two, int three) {
            long least = cells[cellOf(one, two, three)] + value[0];
            for (int way = 1; way < ways && way < WAYS; way++) {
                int left = one - need[way * PLAN_MOST];
                int leftTwo = two - need[way * PLAN_MOST + 1];
                int leftThree = three - need[way * PLAN_MOST + 2];
                if (left >= 0 && leftTwo >= 0 && leftThree >= 0) {
                    least = Math.min(least, cells[cellOf(left, leftTwo, leftThree)] + value[way]);
                }
            }
            return least;
        }
    }

    /** Years played out by a seed, on a state of their own. */
    static final class Seeds {
        final State state = new State();
        int written;
        private final Desk desk;
        private final long[] saved = new long[LIVES_MOST];
        private int seed;

        Seeds(Desk desk) {
            this.desk = desk;
        }

        void play(State from, int firstSeed, int weeks) {
            state.copyFrom(from);
            state.lacked = 0;
            state.ran = 0;
            state.lost = 0;
            written = 0;
            seed = firstSeed;
            for (int i = 0; i < weeks; i++) {
                drawDeaths();
                putFirsts();
                desk.passWeek(state);
            }
        }

        private int drawOf64() {
            seed = seed * 1_103_515_245 + 12_345;
            return (seed >>> 16 & 0x7fff) % 64;
        }

        private void drawDeaths() {
            for (int life = 0; life < desk.told.lives; life++) {
                if (state.isAlive(life) && drawOf64() < desk.told.odds[life]) {
                    desk.letDie(state, life);
                }
            }
        }

        /** What one piece saves does not hang on the others, so all are weighed once a week. */
        private void putFirsts() {
            for (int life = 0; life < desk.told.lives; life++) {
                saved[life] = desk.savedRisk(state, life);
            }
            for (int i = 0; i < desk.told.lives; i++) {
                int life = desk.firstOf(state, saved, state.hours);
                if (life == NONE || !desk.putPiece(state, life)) {
                    return;
                }
                saved[life] = 0;
                written++;
            }
        }
    }
}
