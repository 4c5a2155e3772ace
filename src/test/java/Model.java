import java.math.BigInteger;
import java.util.ArrayList;
import java.util.Arrays;
import java.util.List;
import java.util.NoSuchElementException;

/**
 * The document once more, written for plainness alone: big fractions, trees, copies of whole states,
 * and every way tried. ModelTest asks it and the class the same and wants the same answers.
 */
final class Model {
    // ---- fractions

    static final class Frac implements Comparable<Frac> {
        static final Frac ZERO = new Frac(BigInteger.ZERO, BigInteger.ONE);
        final BigInteger above;
        final BigInteger below;

        Frac(BigInteger a, BigInteger b) {
            BigInteger g = a.gcd(b);
            above = a.divide(g);
            below = b.divide(g);
        }

        static Frac of(long a, long b) { return new Frac(BigInteger.valueOf(a), BigInteger.valueOf(b)); }
        Frac plus(Frac o) { return new Frac(above.multiply(o.below).add(o.above.multiply(below)), below.multiply(o.below)); }
        Frac times(Frac o) { return new Frac(above.multiply(o.above), below.multiply(o.below)); }
        Frac less(Frac o) { return plus(o.times(of(-1, 1))); }
        public int compareTo(Frac o) { return above.multiply(o.below).compareTo(o.above.multiply(below)); }
        long part(int part) { return (part == 0 ? above : below).longValueExact(); }
    }

    // ---- texts

    static final class Fault extends RuntimeException {
        private static final long serialVersionUID = 1;
        final int kind;
        final int at;
        Fault(int kind, int at) { super(null, null, false, false); this.kind = kind; this.at = at; }
    }

    static final class Token {
        final int at;
        final String text;
        Token(int at, String text) { this.at = at; this.text = text; }
        boolean isNumber() { return !text.isEmpty() && text.charAt(0) >= '0' && text.charAt(0) <= '9'; }
    }

    static final class Reader {
        final List<Token> tokens = new ArrayList<>();
        int next = 0;

        Reader(byte[] bytes) {
            String s = new String(bytes, java.nio.charset.StandardCharsets.ISO_8859_1);
            int i = 0;
            while (i < s.length()) {
                char c = s.charAt(i);
                if (c == ' ') { i++; continue; }
                int j = i + 1;
                if (c >= '0' && c <= '9') while (j < s.length() && s.charAt(j) >= '0' && s.charAt(j) <= '9') j++;
                if (c >= 'a' && c <= 'z') while (j < s.length() && s.charAt(j) >= 'a' && s.charAt(j) <= 'z') j++;
                tokens.add(new Token(i, s.substring(i, j)));
                i = j;
            }
            tokens.add(new Token(s.length(), ""));
        }

        Token see() { return tokens.get(next); }
        boolean atEnd() { return see().text.isEmpty(); }
        boolean sees(String t) { return see().text.equals(t); }
        Token take() { Token t = see(); if (!atEnd()) next++; return t; }
        void want(String t) { if (!sees(t)) throw new Fault(1, see().at); take(); }
        int number(long least, long most) {
            Token t = see();
            if (!t.isNumber()) throw new Fault(1, t.at);
            BigInteger v = new BigInteger(t.text);
            if (v.compareTo(BigInteger.valueOf(least)) < 0 || v.compareTo(BigInteger.valueOf(most)) > 0) throw new Fault(2, t.at);
            take();
            return v.intValue();
        }
    }

    // ---- what is told

    static final class Life { int a, d, w, h; Integer has; Integer by; }
    static final class Change { int life, k, x; }

    static final class Drawer {
        final List<Life> lives = new ArrayList<>();
        final List<Change> changes = new ArrayList<>();
        int hours = 8, lack = 5, wrong = 3, half = 2;

        int renew(int i) { return Math.max(1, lives.get(i).h / half); }
    }

    static Drawer readDrawer(byte[] text) {
        Reader r = new Reader(text);
        Drawer d = new Drawer();
        int clauses = 0;
        while (!r.atEnd()) {
            Token t = r.see();
            if (!Arrays.asList("life", "has", "by", "fact", "hours", "lack", "wrong", "half").contains(t.text)) throw new Fault(1, t.at);
            clauses++;
            if (clauses > 60) throw new Fault(3, t.at);
            r.take();
            int last = d.lives.size() - 1;
            if (t.text.equals("life")) {
                if (last == 7) throw new Fault(3, t.at);
                Life l = new Life();
                l.a = r.number(0, 110);
                l.d = r.number(0, 64);
                l.w = r.number(1, 99);
                l.h = r.number(1, 9);
                d.lives.add(l);
            } else if (t.text.equals("has")) {
                int i = r.number(0, last);
                d.lives.get(i).has = r.number(0, 40);
            } else if (t.text.equals("by")) {
                int i = r.number(0, last);
                int at = r.see().at;
                int j = r.number(0, last);
                if (i == j) throw new Fault(2, at);
                d.lives.get(i).by = j;
            } else if (t.text.equals("fact")) {
                if (d.changes.size() == 24) throw new Fault(3, t.at);
                Change c = new Change();
                c.life = r.number(0, last);
                c.k = r.number(0, 5);
                c.x = r.number(1, 60);
                d.changes.add(c);
            } else if (t.text.equals("hours")) d.hours = r.number(1, 12);
            else if (t.text.equals("lack")) d.lack = r.number(0, 9);
            else if (t.text.equals("wrong")) d.wrong = r.number(0, 9);
            else d.half = r.number(1, 4);
            r.want(";");
        }
        return d;
    }

    // ---- the law

    interface Expr { int of(int age, int years, int worth, int dead, int facts); }

    static Expr readLaw(byte[] text) {
        Reader r = new Reader(text);
        Expr e = sum(r, 0);
        if (!r.atEnd()) throw new Fault(1, r.see().at);
        return e;
    }

    static Expr sum(Reader r, int open) {
        Expr left = product(r, open);
        while (r.sees("+") || r.sees("-")) {
            boolean plus = r.take().text.equals("+");
            Expr a = left, b = product(r, open);
            left = plus ? (g, y, w, d, f) -> a.of(g, y, w, d, f) + b.of(g, y, w, d, f)
                        : (g, y, w, d, f) -> a.of(g, y, w, d, f) - b.of(g, y, w, d, f);
        }
        return left;
    }

    static Expr product(Reader r, int open) {
        Expr left = unit(r, open);
        while (r.sees("*") || r.sees("/")) {
            boolean times = r.take().text.equals("*");
            Expr a = left, b = unit(r, open);
            left = times ? (g, y, w, d, f) -> a.of(g, y, w, d, f) * b.of(g, y, w, d, f)
                         : (g, y, w, d, f) -> {
                             int by = b.of(g, y, w, d, f);
                             return by == 0 ? 0 : a.of(g, y, w, d, f) / by;
                         };
        }
        return left;
    }

    static Expr unit(Reader r, int open) {
        Token t = r.see();
        if (t.isNumber()) {
            int v = r.number(0, 999);
            return (g, y, w, d, f) -> v;
        }
        boolean opens = Arrays.asList("(", "least", "most").contains(t.text);
        if (opens && open == 6) throw new Fault(3, t.at);
        r.take();
        switch (t.text) {
            case "age": return (g, y, w, d, f) -> g;
            case "years": return (g, y, w, d, f) -> y;
            case "worth": return (g, y, w, d, f) -> w;
            case "dead": return (g, y, w, d, f) -> d;
            case "facts": return (g, y, w, d, f) -> f;
            case "(": {
                Expr e = sum(r, open + 1);
                r.want(")");
                return e;
            }
            case "least": case "most": {
                boolean least = t.text.equals("least");
                r.want("[");
                Expr a = sum(r, open + 1);
                r.want(",");
                Expr b = sum(r, open + 1);
                r.want("]");
                return (g, y, w, d, f) -> {
                    int p = a.of(g, y, w, d, f), q = b.of(g, y, w, d, f);
                    return least == (p < q) ? p : q;
                };
            }
            default: throw new Fault(1, t.at);
        }
    }

    // ---- work

    static final class Step { String word; int n; List<Step> body; }

    static List<Step> steps(Reader r, int lives, int open) {
        List<Step> all = new ArrayList<>();
        while (open == 0 ? !r.atEnd() : !r.sees("]")) {
            Token t = r.see();
            Step s = new Step();
            s.word = t.text;
            switch (t.text) {
                case "write": case "renew": case "die":
                    r.take();
                    s.n = r.number(0, lives - 1);
                    break;
                case "week":
                    r.take();
                    break;
                case "again":
                    if (open == 6) throw new Fault(3, t.at);
                    r.take();
                    s.n = r.number(0, 20);
                    r.want("[");
                    s.body = steps(r, lives, open + 1);
                    r.want("]");
                    break;
                default: throw new Fault(1, t.at);
            }
            r.want(";");
            all.add(s);
        }
        return all;
    }

    // ---- the state

    static final class State {
        int week, hours, lacked, run;
        boolean[] dead = new boolean[8];
        int[] written = new int[8]; // the week of writing
        boolean[] has = new boolean[8];
        Frac lost = Frac.ZERO;

        State copy() {
            State s = new State();
            s.week = week; s.hours = hours; s.lacked = lacked; s.run = run;
            s.dead = dead.clone(); s.written = written.clone(); s.has = has.clone(); s.lost = lost;
            return s;
        }
    }

    static final class Image { State now; List<State> undo; }

    Drawer drawer = new Drawer();
    Expr law;
    int[] page = {-1, -1, -1, -1, -1, -1};
    State now = new State();
    List<State> undo = new ArrayList<>();
    List<Image> images = new ArrayList<>();
    java.io.ByteArrayOutputStream tape = new java.io.ByteArrayOutputStream();
    int faultAt = -1;
    int refused = 0;
    int noSuch = 0, bad = 0;
    int begun, done;

    Model() { clearAll(new Drawer()); }

    void clearAll(Drawer d) {
        drawer = d;
        law = (g, y, w, dd, f) -> g + g;
        Arrays.fill(page, -1);
        now = new State();
        now.hours = d.hours;
        for (int i = 0; i < d.lives.size(); i++) {
            Integer has = d.lives.get(i).has;
            now.has[i] = has != null;
            now.written[i] = has == null ? 0 : -has;
        }
        undo = new ArrayList<>();
        images = new ArrayList<>();
        refused = 0;
    }

    int lives() { return drawer.lives.size(); }

    int clamp(int v) { return v < 0 ? 0 : v > 64 ? 64 : v; }

    int deadSigner(State s, int i) {
        Integer by = drawer.lives.get(i).by;
        return by != null && s.dead[by] ? 1 : 0;
    }

    int wrongOf(State s, int i) { return wrongIn(s, i, s.week, s.written[i]); }

    int wrongIn(State s, int i, int week, int written) {
        Life l = drawer.lives.get(i);
        int changed = 0;
        for (Change c : drawer.changes) if (c.life == i && c.x > written && c.x <= week) changed++;
        return clamp(law.of(week - written, l.a + week / 52, l.w, deadSigner(s, i), changed));
    }

    Frac costIn(State s, int i, int week, boolean has, int written) {
        Life l = drawer.lives.get(i);
        if (!has) return Frac.of((long) drawer.lack * l.w, 1);
        return Frac.of((long) drawer.wrong * l.w * wrongIn(s, i, week, written), 64);
    }

    Frac costOf(State s, int i) { return costIn(s, i, s.week, s.has[i], s.written[i]); }

    Frac riskOf(State s, int i) { return s.dead[i] ? Frac.ZERO : Frac.of(drawer.lives.get(i).d, 64).times(costOf(s, i)); }

    Frac riskAll(State s) {
        Frac f = Frac.ZERO;
        for (int i = 0; i < lives(); i++) f = f.plus(riskOf(s, i));
        return f;
    }

    int hoursOf(State s, int i) { return s.has[i] ? drawer.renew(i) : drawer.lives.get(i).h; }

    Frac savesOf(State s, int i) {
        if (s.dead[i] || s.has[i] && s.written[i] == s.week) return Frac.ZERO;
        State t = s.copy();
        t.has[i] = true;
        t.written[i] = t.week;
        Frac less = riskAll(s).less(riskAll(t)).times(Frac.of(1, hoursOf(s, i)));
        return less.compareTo(Frac.ZERO) < 0 ? Frac.ZERO : less;
    }

    int firstOf(State s, boolean askHours) {
        int which = -1;
        Frac most = Frac.ZERO;
        for (int i = 0; i < lives(); i++) {
            Frac f = savesOf(s, i);
            if (askHours && hoursOf(s, i) > s.hours) continue;
            if (f.compareTo(most) > 0) { most = f; which = i; }
        }
        return which;
    }

    boolean doStep(State s, String word, int i) {
        switch (word) {
            case "week":
                if (s.week == 200) return false;
                s.week++;
                s.hours = drawer.hours;
                return true;
            case "die":
                if (s.dead[i]) return false;
                s.lost = s.lost.plus(costOf(s, i));
                if (s.has[i]) s.run++; else { s.lacked++; s.hours = s.hours < 2 ? 0 : s.hours - 2; }
                s.has[i] = false;
                s.dead[i] = true;
                return true;
            case "write":
                if (s.dead[i] || s.has[i] || drawer.lives.get(i).h > s.hours) return false;
                s.hours -= drawer.lives.get(i).h;
                break;
            default:
                if (s.dead[i] || !s.has[i] || s.written[i] == s.week || drawer.renew(i) > s.hours) return false;
                s.hours -= drawer.renew(i);
        }
        s.has[i] = true;
        s.written[i] = s.week;
        return true;
    }

    void doSteps(List<Step> steps) {
        for (Step step : steps) {
            if (begun == 200) return;
            begun++;
            if (step.body != null) {
                for (int i = 0; i < step.n; i++) doSteps(step.body);
            } else if (doStep(now, step.word, step.n)) done++;
            else refused++;
        }
    }

    int factsAt(int life, int week) {
        int bits = 0;
        for (Change c : drawer.changes) if (c.life == life && c.x <= week) bits ^= 1 << c.k;
        return bits;
    }

    // ---- best

    Frac best;
    int[] bestBits;

    void findBest(int n) {
        best = null;
        int[] bits = new int[n];
        tryWeek(n, 0, bits);
    }

    void tryWeek(int n, int k, int[] bits) {
        if (k == n) {
            Frac all = Frac.ZERO;
            for (int i = 0; i < lives(); i++) if (!now.dead[i]) all = all.plus(lossAhead(i, n, bits));
            if (best == null || all.compareTo(best) < 0) { best = all; bestBits = bits.clone(); }
            return;
        }
        for (int b = 0; b < 1 << lives(); b++) {
            int hours = 0;
            boolean can = true;
            for (int i = 0; i < lives(); i++) {
                if ((b >> i & 1) == 0) continue;
                if (now.dead[i]) can = false;
                boolean has = now.has[i];
                for (int j = 0; j < k; j++) if ((bits[j] >> i & 1) != 0) has = true;
                if (k == 0 && has && now.written[i] == now.week) can = false;
                hours += has ? drawer.renew(i) : drawer.lives.get(i).h;
            }
            if (!can || hours > (k == 0 ? now.hours : drawer.hours)) continue;
            bits[k] = b;
            tryWeek(n, k + 1, bits);
        }
        bits[k] = 0;
    }

    Frac lossAhead(int i, int n, int[] bits) {
        Frac alive = Frac.of(1, 1), all = Frac.ZERO;
        Frac d = Frac.of(drawer.lives.get(i).d, 64);
        boolean has = now.has[i];
        int written = now.written[i];
        for (int j = 0; j < n; j++) {
            if ((bits[j] >> i & 1) != 0) { has = true; written = now.week + j; }
            all = all.plus(alive.times(d).times(costIn(now, i, now.week + j, has, written)));
            alive = alive.times(Frac.of(1, 1).less(d));
        }
        return all;
    }

    // ---- often, rumours, room

    Frac yearlyOf(int i, int c, int k) {
        Life l = drawer.lives.get(i);
        Frac all = Frac.of((long) c * drawer.renew(i), 1);
        for (int a = 0; a < k; a++) {
            int wrong = clamp(law.of(a, l.a + now.week / 52, l.w, deadSigner(now, i), 0));
            all = all.plus(Frac.of((long) l.d * drawer.wrong * l.w * wrong, 4096));
        }
        return all.times(Frac.of(1, k));
    }

    Frac bringsOf(int t, int b, int v, int x, int y, int way) {
        Frac yes = Frac.of(t, 16), no = Frac.of(16 - t, 16);
        if (way == 2) return yes.times(Frac.of(16 - b, 16)).times(Frac.of(v, 1));
        return yes.times(Frac.of(v, 1)).less(no.times(Frac.of(way == 0 ? x : y, 1)));
    }

    int saysOf(int t, int b, int v, int x, int y) {
        int which = 0;
        for (int w = 1; w < 3; w++)
            if (bringsOf(t, b, v, x, y, w).compareTo(bringsOf(t, b, v, x, y, which)) > 0) which = w;
        return which;
    }

    int roomBest;
    int[] roomLines;

    void tryRoom(int bits, int r, int i, int worth, int[] lines) {
        if (i == lives()) {
            if (worth > roomBest) { roomBest = worth; roomLines = lines.clone(); }
            return;
        }
        lines[i] = 0;
        tryRoom(bits, r, i + 1, worth, lines);
        if ((bits >> i & 1) == 0) return;
        int w = drawer.lives.get(i).w;
        if (r >= 3) { lines[i] = 3; tryRoom(bits, r - 3, i + 1, worth + w, lines); }
        if (r >= w) { lines[i] = w; tryRoom(bits, r - w, i + 1, worth + 3 * w, lines); }
    }

    // ---- years

    int played;
    int seed;

    State play(int from, int weeks) {
        State s = now.copy();
        s.lacked = 0;
        s.run = 0;
        s.lost = Frac.ZERO;
        played = 0;
        seed = from;
        for (int week = 0; week < weeks; week++) {
            for (int i = 0; i < lives(); i++) {
                if (s.dead[i]) continue;
                long next = ((seed & 0xffffffffL) * 1103515245L + 12345L) & 0xffffffffL;
                seed = (int) next;
                if (next / 65536 % 32768 % 64 < drawer.lives.get(i).d) doStep(s, "die", i);
            }
            for (int i = firstOf(s, true); i >= 0; i = firstOf(s, true)) {
                if (!doStep(s, s.has[i] ? "renew" : "write", i)) throw new IllegalStateException("the first can't be put");
                played++;
            }
            doStep(s, "week", 0);
        }
        return s;
    }

    int aliveIn(State s) {
        int n = 0;
        for (int i = 0; i < lives(); i++) if (!s.dead[i]) n++;
        return n;
    }

    // ---- the face

    void life(int i) { if (i < 0 || i >= lives()) throw new NoSuchElementException(); }
    void in(int v, int least, int most) { if (v < least || v > most) throw new IllegalArgumentException(); }
    void bits(int v) { if (v < 0 || v >= 1 << lives()) throw new IllegalArgumentException(); }

    byte[] text(int n, int most) {
        in(n, 0, Math.min(most, tape.size()));
        byte[] b = Arrays.copyOf(tape.toByteArray(), n);
        tape.reset();
        faultAt = -1;
        return b;
    }

    long call(String name, int[] a) {
        try {
            return answer(name, a);
        } catch (Fault f) {
            faultAt = f.at;
            return f.kind - 10;
        } catch (NoSuchElementException e) {
            noSuch++;
            throw e;
        } catch (IllegalArgumentException e) {
            bad++;
            throw e;
        }
    }

    private long answer(String name, int[] a) {
        switch (name) {
            case "feed": {
                if (tape.size() + 20 > 600) return -1;
                for (int v : a) for (int s = 24; s >= 0; s -= 8) tape.write(v >>> s);
                return tape.size();
            }
            case "drawer": {
                clearAll(readDrawer(text(a[0], 600)));
                return lives();
            }
            case "law": {
                law = readLaw(text(a[0], 150));
                return 1;
            }
            case "work": {
                byte[] b = text(a[0], 150);
                if (undo.size() == 16) return -20;
                List<Step> steps = steps(new Reader(b), lives(), 0);
                undo.add(now.copy());
                begun = 0;
                done = 0;
                refused = 0;
                doSteps(steps);
                return done;
            }
            case "page": {
                Reader r = new Reader(text(a[0], 60));
                int[] p = {-1, -1, -1, -1, -1, -1};
                int n = 0;
                while (!r.atEnd()) {
                    int at = r.see().at;
                    int k = r.number(0, 5);
                    if (p[k] >= 0) throw new Fault(2, at);
                    p[k] = r.number(0, 1);
                    r.want(";");
                    n++;
                }
                page = p;
                return n;
            }
            case "fault": return faultAt;
            case "undo": {
                if (undo.isEmpty()) return -1;
                now = undo.remove(undo.size() - 1);
                refused = 0;
                return undo.size();
            }
            case "image": {
                if (images.size() == 3) return -1;
                Image i = new Image();
                i.now = now.copy();
                i.undo = new ArrayList<>();
                for (State s : undo) i.undo.add(s.copy());
                images.add(i);
                return images.size();
            }
            case "restore": {
                if (images.isEmpty()) return -1;
                Image i = images.remove(images.size() - 1);
                now = i.now;
                undo = i.undo;
                refused = 0;
                return images.size();
            }
            case "status": return a[0] == 0 ? noSuch : a[0] == 1 ? bad : -1;
            case "count": return a[0] == 0 ? images.size() : a[0] == 1 ? tape.size() : a[0] == 2 ? undo.size() : -1;
            default: return asked(name, a);
        }
    }

    private long asked(String name, int[] a) {
        int bits = 0;
        switch (name) {
            case "told": {
                in(a[0], 0, 8);
                int pieces = 0, lines = 0;
                for (int i = 0; i < lives(); i++) if (now.has[i]) pieces++;
                for (int p : page) if (p >= 0) lines++;
                return new int[] {lives(), now.week, now.hours, aliveIn(now), pieces, now.lacked, now.run, lines, refused}[a[0]];
            }
            case "life": {
                life(a[0]);
                in(a[1], 0, 7);
                Life l = drawer.lives.get(a[0]);
                return new int[] {l.a + now.week / 52, l.d, l.w, l.h, drawer.renew(a[0]), now.dead[a[0]] ? 1 : 0,
                    now.has[a[0]] ? now.week - now.written[a[0]] : -1, l.by == null ? -1 : l.by}[a[1]];
            }
            case "facts": life(a[0]); return factsAt(a[0], now.week);
            case "wrong": life(a[0]); return now.has[a[0]] ? wrongOf(now, a[0]) : -1;
            case "would": {
                in(a[0], 0, 200); in(a[1], 0, 200); in(a[2], 1, 99); in(a[3], 0, 1); in(a[4], 0, 24);
                return clamp(law.of(a[0], a[1], a[2], a[3], a[4]));
            }
            case "loss": in(a[0], 0, 1); return now.lost.part(a[0]);
            case "cost": life(a[0]); in(a[1], 0, 1); return (now.dead[a[0]] ? Frac.ZERO : costOf(now, a[0])).part(a[1]);
            case "risk": in(a[0], 0, 1); return riskAll(now).part(a[0]);
            case "saves": life(a[0]); in(a[1], 0, 1); return savesOf(now, a[0]).part(a[1]);
            case "first": return firstOf(now, false);
            case "lacking": for (int i = 0; i < lives(); i++) if (!now.dead[i] && !now.has[i]) bits += 1 << i; return bits;
            case "signed": for (int i = 0; i < lives(); i++) if (now.has[i] && deadSigner(now, i) == 1) bits += 1 << i; return bits;
            case "stale": in(a[0], 0, 65); for (int i = 0; i < lives(); i++) if (now.has[i] && wrongOf(now, i) >= a[0]) bits += 1 << i; return bits;
            case "best": in(a[0], 1, 3); in(a[1], 0, 1); findBest(a[0]); return best.part(a[1]);
            case "bestIn": in(a[0], 1, 3); in(a[1], 0, a[0] - 1); findBest(a[0]); return bestBits[a[1]];
            case "often": {
                life(a[0]); in(a[1], 0, 999);
                int which = 1;
                for (int k = 2; k <= 30; k++) if (yearlyOf(a[0], a[1], k).compareTo(yearlyOf(a[0], a[1], which)) < 0) which = k;
                return which;
            }
            case "yearly": life(a[0]); in(a[1], 0, 999); in(a[2], 1, 30); in(a[3], 0, 1); return yearlyOf(a[0], a[1], a[2]).part(a[3]);
            case "brings": {
                in(a[0], 0, 16); in(a[1], 0, 16); in(a[2], 0, 999); in(a[3], 0, 999); in(a[4], 0, 999); in(a[5], 0, 2);
                Frac f = bringsOf(a[0], a[1], a[2], a[3], a[4], a[5]).times(Frac.of(256, 1));
                if (f.part(1) != 1) throw new IllegalStateException("no whole 256ths");
                return f.part(0);
            }
            case "says": in(a[0], 0, 16); in(a[1], 0, 16); in(a[2], 0, 999); in(a[3], 0, 999); in(a[4], 0, 999); return saysOf(a[0], a[1], a[2], a[3], a[4]);
            case "line": {
                in(a[0], 0, 16); in(a[1], 0, 999); in(a[2], 0, 999); in(a[3], 0, 999);
                for (int t = 0; t <= 16; t++) if (saysOf(t, a[0], a[1], a[2], a[3]) == 0) return t;
                return -1;
            }
            case "room": bits(a[0]); in(a[1], 0, 200); roomBest = -1; tryRoom(a[0], a[1], 0, 0, new int[8]); return roomBest;
            case "lines": life(a[2]); bits(a[0]); in(a[1], 0, 200); roomBest = -1; tryRoom(a[0], a[1], 0, 0, new int[8]); return roomLines[a[2]];
            default: return askedMore(name, a);
        }
    }

    private long askedMore(String name, int[] a) {
        int bits = 0;
        int reach = Math.min(60, 200 - now.week);
        switch (name) {
            case "apart": {
                bits(a[0]); in(a[1], 0, 1);
                for (int n = 0; n <= 6; n++) for (int m = 0; m < 64; m++) {
                    if (Integer.bitCount(m) != n) continue;
                    java.util.Set<Integer> seen = new java.util.HashSet<>();
                    boolean all = true;
                    for (int i = 0; i < lives(); i++) if ((a[0] >> i & 1) != 0) all &= seen.add(factsAt(i, now.week) & m);
                    if (all) return a[1] == 0 ? n : m;
                }
                return -1;
            }
            case "twins": {
                for (int i = 0; i < lives(); i++) for (int j = i + 1; j < lives(); j++)
                    if (factsAt(i, now.week) == factsAt(j, now.week)) return 10 * i + j;
                return -1;
            }
            case "written": life(a[0]); return weeksOf(a[0]);
            case "whose": for (int i = 0; i < lives(); i++) if (weeksOf(i) != 0) bits += 1 << i; return bits;
            case "ahead": in(a[0], 0, reach); in(a[1], 0, 1); return riskAll(later(a[0])).part(a[1]);
            case "lives": {
                life(a[0]); in(a[1], 0, 8); in(a[2], 0, 1);
                Frac f = now.dead[a[0]] ? Frac.ZERO : Frac.of(1, 1);
                for (int i = 0; i < a[1]; i++) f = f.times(Frac.of(64 - drawer.lives.get(a[0]).d, 64));
                return f.part(a[2]);
            }
            case "oldest": {
                int which = -1;
                for (int i = 0; i < lives(); i++)
                    if (now.has[i] && (which < 0 || now.written[i] < now.written[which])) which = i;
                return which;
            }
            case "chain": {
                life(a[0]); in(a[1], 0, 1);
                List<Integer> seen = new ArrayList<>();
                for (Integer i = a[0]; i != null && !seen.contains(i); i = drawer.lives.get(i).by) seen.add(i);
                return a[1] == 0 ? seen.size() : seen.get(seen.size() - 1);
            }
            case "due": {
                life(a[0]); in(a[1], 0, 65);
                if (!now.has[a[0]]) return -1;
                for (int j = 0; j <= reach; j++) if (wrongOf(later(j), a[0]) >= a[1]) return j;
                return -1;
            }
            case "news": {
                life(a[0]);
                for (int w = now.week + 1; w <= 60; w++) for (Change c : drawer.changes) if (c.life == a[0] && c.x == w) return w;
                return -1;
            }
            case "expects": {
                life(a[0]); in(a[1], 0, 7); in(a[2], 0, 1);
                return (now.dead[a[0]] ? Frac.ZERO : lossAhead(a[0], a[1], new int[7])).part(a[2]);
            }
            case "worst": {
                int which = 0;
                for (int j = 1; j <= reach; j++) if (riskAll(later(j)).compareTo(riskAll(later(which))) > 0) which = j;
                return which;
            }
            case "years": {
                in(a[1], 1, 60); in(a[2], 0, 4);
                State s = play(a[0], a[1]);
                return new long[] {aliveIn(s), s.lacked, s.run, played, s.lost.above.divide(s.lost.below).longValue()}[a[2]];
            }
            case "span": {
                in(a[1], 1, 20); in(a[2], 1, 60); in(a[3], 0, 3); in(a[4], 0, lives() - 1);
                int least = 99, most = 0, all = 0, alive = 0;
                for (int i = 0; i < a[1]; i++) {
                    State s = play(a[0] + i, a[2]);
                    least = Math.min(least, s.lacked);
                    most = Math.max(most, s.lacked);
                    all += s.lacked;
                    if (!s.dead[a[4]]) alive++;
                }
                return new int[] {least, most, all, alive}[a[3]];
            }
            default: throw new IllegalStateException(name);
        }
    }

    State later(int weeks) {
        State s = now.copy();
        s.week += weeks;
        return s;
    }

    long weeksOf(int life) {
        long bits = 0;
        for (int w = 0; w <= 60; w++) {
            boolean as = true;
            for (int k = 0; k < 6; k++) if (page[k] >= 0 && (factsAt(life, w) >> k & 1) != page[k]) as = false;
            if (as) bits |= 1L << w;
        }
        return bits;
    }
}
