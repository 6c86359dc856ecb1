import java.util.ArrayDeque;
import java.util.ArrayList;
import java.util.Arrays;
import java.util.Deque;
import java.util.List;
import java.util.Random;

/**
 * Long runs of drawn calls, answered by WovenCalls and by a model written another way: kinds of advice as
 * classes, failures as exceptions, undoing by whole copies. The draws are the same each time.
 */
public final class WovenCallsAgainstModel {
    private static final int NONE = -1000000, BAD = -1000001, STATE = -1000002, FULL = -1000003;
    private static final int OBJECTS = 4000, CALLS = 512;

    @SuppressWarnings("serial") static final class Failure extends RuntimeException {
        final int by;
        Failure(int by) { super(null, null, false, false); this.by = by; }
    }
    @SuppressWarnings("serial") static final class TooMuch extends RuntimeException {
        TooMuch() { super(null, null, false, false); }
    }
    @SuppressWarnings("serial") static final class Fault extends RuntimeException {
        final int place, number;
        Fault(int place, int number) { super(null, null, false, false); this.place = place; this.number = number; }
    }

    static final class Statement {
        final char sort; final int v;
        Statement(char sort, int v) { this.sort = sort; this.v = v; }
    }

    static final class Method {
        int clazz; final List<Statement> body = new ArrayList<>();
        Method(int clazz) { this.clazz = clazz; }
        Method copied() { Method m = new Method(clazz); m.body.addAll(body); return m; }
    }

    static abstract class Advice {
        int number, clazz, method, below, flow;
        abstract int kind();
        /** What goes on about the rest. */
        abstract int about(Going going, java.util.function.IntSupplier rest);
        int size(Model m) { m.trace.add(10); return number; }
        int mark(Model m) { m.trace.add(20); return m.weave.advice.indexOf(this); }
        Advice with(int... f) { number = f[0]; clazz = f[1]; method = f[2]; below = f[3]; flow = f[4]; return this; }
        int[] facts() { return new int[] {number, clazz, method, below, flow}; }
        Advice copied() { return of(kind()).with(facts()); }
        static Advice of(int kind) {
            switch (kind) {
                case 1: return new After();
                case 2: return new Returning();
                case 3: return new Throwing();
                case 4: return new Around();
                default: return new Before();
            }
        }
    }
    static class After extends Advice {
        int kind() { return 1; }
        int about(Going going, java.util.function.IntSupplier rest) {
            int r;
            try { r = rest.getAsInt(); } catch (Failure f) { going.emit(number); throw f; }
            going.emit(number);
            return r;
        }
        int size(Model m) { m.trace.add(11); return super.size(m) + mark(m); }
        int mark(Model m) { m.trace.add(21); return super.mark(m) + m.weave.notNever(this); }
    }
    static final class Returning extends After {
        int kind() { return 2; }
        int about(Going going, java.util.function.IntSupplier rest) {
            int r = rest.getAsInt();
            going.emit(number);
            return r;
        }
        int size(Model m) { m.trace.add(12); return -super.size(m); }
        int mark(Model m) { m.trace.add(24); return 2 * super.mark(m); }
    }
    static final class Throwing extends After {
        int kind() { return 3; }
        int about(Going going, java.util.function.IntSupplier rest) {
            try { return rest.getAsInt(); } catch (Failure f) { going.emit(number); throw f; }
        }
        int mark(Model m) { m.trace.add(22); return super.mark(m) - 1000; }
    }
    static class Around extends Advice {
        int kind() { return 4; }
        int about(Going going, java.util.function.IntSupplier rest) {
            going.emit(number);
            int r = number;
            for (int i = 0; i < number % 3; i++) r = rest.getAsInt() + 1;
            going.emit(number + 100);
            return r;
        }
        int size(Model m) { m.trace.add(13); return super.size(m) - 100; }
        int mark(Model m) { m.trace.add(23); return super.mark(m) - size(m); }
    }
    static final class Before extends Around {
        int kind() { return 5; }
        int about(Going going, java.util.function.IntSupplier rest) { going.emit(number); return rest.getAsInt(); }
        int size(Model m) { m.trace.add(14); return 2 * super.size(m); }
    }

    static final class Weave {
        final List<Method> methods = new ArrayList<>();
        final List<Advice> advice = new ArrayList<>();

        Weave copied() {
            Weave w = new Weave();
            for (Method m : methods) w.methods.add(m.copied());
            for (Advice a : advice) w.advice.add(a.copied());
            return w;
        }
        static boolean isOrBelow(int clazz, int above) {
            for (int c = clazz; c >= 0; c = c == 3 ? 1 : c == 0 ? -1 : 0) if (c == above) return true;
            return false;
        }
        boolean picks(Advice a, int m) {
            return (a.clazz == 4 || isOrBelow(methods.get(m).clazz, a.clazz)) && (a.method == 6 || a.method == m);
        }
        void reach(int from, boolean[] seen) {
            for (Statement s : methods.get(from).body) {
                if (s.sort == 'c' && !seen[s.v]) { seen[s.v] = true; reach(s.v, seen); }
            }
        }
        int reached(int from) {
            boolean[] seen = new boolean[6];
            reach(from, seen);
            int bits = 0;
            for (int i = 0; i < 6; i++) if (seen[i]) bits += 1 << i;
            return bits;
        }
        int ahead(int m, Advice a) {
            if (!picks(a, m) || a.below == 0) return 0;
            if (a.flow != 6) {
                if (a.flow >= methods.size()) return 0;
                if (a.flow != m && (reached(a.flow) & 1 << m) == 0) return 0;
            }
            return a.below == 10 && (a.flow == 6 || a.flow == m) ? 1 : 2;
        }
        int notNever(Advice a) {
            int n = 0;
            for (int m = 0; m < methods.size(); m++) if (ahead(m, a) != 0) n++;
            return n;
        }
    }

    static final class Going {
        final Weave weave; final List<Integer> out = new ArrayList<>(); final Deque<Integer> open = new ArrayDeque<>();
        int calls, tests, failure, returned; boolean full;

        Going(Weave weave, int m, int x) {
            this.weave = weave;
            try { returned = call(m, x); } catch (Failure f) { failure = f.by; returned = NONE; } catch (TooMuch t) { full = true; }
        }
        void emit(int n) { if (out.size() == 99) throw new TooMuch(); out.add(n); }
        int call(int m, int x) {
            if (++calls > 300) throw new TooMuch();
            for (Advice a : weave.advice) if (weave.ahead(m, a) == 2) tests++;
            open.push(m);
            List<Advice> meant = new ArrayList<>();
            for (Advice a : weave.advice) {
                if (weave.picks(a, m) && x < a.below && (a.flow == 6 || open.contains(a.flow))) meant.add(a);
            }
            try { return nested(meant, m, x); } finally { open.pop(); }
        }
        int nested(List<Advice> meant, int m, int x) {
            if (meant.isEmpty()) return body(m, x);
            return meant.get(0).about(this, () -> nested(meant.subList(1, meant.size()), m, x));
        }
        int body(int m, int x) {
            int r = x;
            for (Statement s : weave.methods.get(m).body) {
                if (s.sort == 'e') emit(s.v);
                else if (s.sort == 'f') throw new Failure(s.v);
                else if (x > 0) r += call(s.v, x - 1);
            }
            return r;
        }
        List<Integer> end() { return full ? List.of(FULL) : List.of(out.size(), failure, returned); }
    }

    static final class Reading {
        final String text; int at;
        final Weave weave = new Weave();
        Reading(String text) { this.text = text; }

        String token() {
            if (at >= text.length()) return "";
            int end = at;
            while (end < text.length() && "0123456789".indexOf(text.charAt(end)) >= 0) end++;
            return text.substring(at, Math.max(end, at + 1));
        }
        RuntimeException fault(int n) { return new Fault(at, n); }
        boolean isOneOf(String letters) { String t = token(); return t.length() == 1 && letters.contains(t); }
        char letter(String letters) {
            if (!isOneOf(letters)) throw fault(1);
            return text.charAt(at++);
        }
        int number(int least, int most) {
            String t = token();
            if (!t.matches("[0-9]{1,2}")) throw fault(1);
            int v = Integer.parseInt(t);
            if (v < least || v > most) throw fault(2);
            at += t.length();
            return v;
        }
        Weave all() {
            do method(); while (isOneOf("m"));
            while (isOneOf("artob")) advice();
            if (at < text.length()) throw fault(1);
            for (Method m : weave.methods)
                for (Statement s : m.body) if (s.sort == 'c' && s.v >= weave.methods.size()) throw fault(4);
            return weave;
        }
        void method() {
            if (isOneOf("m") && weave.methods.size() == 6) throw fault(3);
            letter("m");
            Method m = new Method(number(0, 3));
            weave.methods.add(m);
            while (!isOneOf(";")) {
                if (m.body.size() == 4) throw fault(1);
                char sort = letter("ecf");
                m.body.add(new Statement(sort, sort == 'e' ? number(1, 99) : sort == 'c' ? number(0, 5) : number(1, 9)));
            }
            letter(";");
        }
        void advice() {
            if (weave.advice.size() == 5) throw fault(3);
            Advice a = Advice.of(" artob".indexOf(letter("artob")));
            a.number = number(1, 99); letter(",");
            a.clazz = number(0, 4); letter(",");
            a.method = number(0, 6); letter(",");
            a.below = number(0, 10); letter(",");
            a.flow = number(0, 6); letter(";");
            weave.advice.add(a);
        }
    }

    static final class Model {
        Weave weave = new Weave();
        final Weave[] images = new Weave[2];
        final List<Weave> before = new ArrayList<>();
        final List<Integer> trace = new ArrayList<>();
        final int[][] rows = new int[8][]; final int[] lanes = new int[8];
        String tape = ""; int fault, status;

        int found(int n) { status = n; return -1000010 - n; }
        int fine(int n) { status = 0; return n; }
        boolean m(int i) { return i >= 0 && i < weave.methods.size(); }
        boolean a(int i) { return i >= 0 && i < weave.advice.size(); }
        static boolean in(int v, int least, int most) { return least <= v && v <= most; }
        void act() { before.add(weave.copied()); if (before.size() > 16) before.remove(0); }

        int row(int row, int lane, int n) {
            if (!in(row, 0, 7) || !in(lane, 0, 2) || n > 40) return BAD;
            if (n < 0) return found(4);
            rows[row] = new int[n]; lanes[row] = lane;
            return fine(n);
        }
        int set(int row, int i, int v) {
            if (!in(row, 0, 7)) return BAD;
            if (rows[row] == null) return found(1);
            if (!in(i, 0, rows[row].length - 1)) return found(2);
            int away = lanes[row] == 0 ? 24 : lanes[row] == 1 ? 16 : 0;
            return fine(rows[row][i] = v << away >> away);
        }
        int copy(int a, int i, int b, int j, int n) {
            if (!in(a, 0, 7) || !in(b, 0, 7)) return BAD;
            if (rows[a] == null || rows[b] == null) return found(1);
            if (lanes[a] != lanes[b]) return found(5);
            if (i < 0 || j < 0 || n < 0 || (long) i + n > rows[a].length || (long) j + n > rows[b].length) return found(2);
            int[] were = rows[a].clone();
            for (int k = 0; k < n; k++) rows[b][j + k] = were[i + k];
            return fine(n);
        }
        int drop(int row) {
            if (!in(row, 0, 7)) return BAD;
            if (rows[row] == null) return found(1);
            int n = rows[row].length;
            rows[row] = null;
            return fine(n);
        }
        int feed(int c) {
            if (!in(c, 0, 255)) return BAD;
            if (tape.length() == 130) return FULL;
            tape += (char) c;
            return tape.length();
        }
        int weave() {
            String text = tape;
            tape = "";
            try {
                weave = new Reading(text).all();
            } catch (Fault f) { fault = f.number; return -1000100 - f.place; }
            before.clear();
            return weave.methods.size();
        }
        int change(int advice, int which, int v) {
            if (!a(advice) || !in(which, 0, 2)) return BAD;
            if (!in(v, which == 0 ? 1 : 0, which == 0 ? 99 : which == 1 ? 10 : 6)) return BAD;
            act();
            Advice a = weave.advice.get(advice);
            int was;
            if (which == 0) { was = a.number; a.number = v; }
            else if (which == 1) { was = a.below; a.below = v; }
            else { was = a.flow; a.flow = v; }
            return was;
        }
        static void become(Weave w, int advice, int kind) {
            w.advice.set(advice, Advice.of(kind).with(w.advice.get(advice).facts()));
        }
        static void swap(Weave w, int a, int b) { java.util.Collections.swap(w.advice, a, b); }
        int become(int advice, int kind) {
            if (!a(advice) || !in(kind, 1, 5)) return BAD;
            int was = weave.advice.get(advice).kind();
            if (was == kind) return STATE;
            act();
            become(weave, advice, kind);
            return was;
        }
        int swap(int a, int b) {
            if (!a(a) || !a(b)) return BAD;
            if (a == b) return STATE;
            act();
            swap(weave, a, b);
            return Math.max(a, b) - Math.min(a, b) + 1;
        }
        int state(int method, int i, int sort, int v) {
            if (!m(method) || !in(i, 0, weave.methods.get(method).body.size() - 1) || !in(sort, 0, 2)) return BAD;
            if (sort == 1 ? !m(v) : !in(v, 1, sort == 0 ? 99 : 9)) return BAD;
            act();
            return "ecf".indexOf(weave.methods.get(method).body.set(i, new Statement("ecf".charAt(sort), v)).sort);
        }
        int belong(int method, int clazz) {
            if (!m(method) || !in(clazz, 0, 3)) return BAD;
            int was = weave.methods.get(method).clazz;
            if (was == clazz) return STATE;
            act();
            weave.methods.get(method).clazz = clazz;
            return was;
        }
        int undo() {
            if (before.isEmpty()) return STATE;
            weave = before.remove(before.size() - 1);
            return before.size();
        }
        int method(int method, int what) {
            if (!m(method)) return BAD;
            Method m = weave.methods.get(method);
            if (what == 0) return m.clazz;
            if (what == 1) return m.body.size();
            if (what == 2) return weave.reached(method);
            if (in(what, 10, 13)) return what - 10 < m.body.size() ? "ecf".indexOf(m.body.get(what - 10).sort) : NONE;
            if (in(what, 20, 23)) return what - 20 < m.body.size() ? m.body.get(what - 20).v : NONE;
            return BAD;
        }
        int advice(int advice, int what) { return a(advice) && in(what, 0, 4) ? weave.advice.get(advice).facts()[what] : BAD; }
        int ahead(int method, int advice) { return m(method) && a(advice) ? weave.ahead(method, weave.advice.get(advice)) : BAD; }
        int run(int method, int x, int what) {
            if (!m(method) || !in(x, 0, 9) || what < -5) return BAD;
            Going g = new Going(weave, method, x);
            if (g.full) return FULL;
            if (what == -1) return g.out.size();
            if (what == -2) return g.failure;
            if (what == -3) return g.returned;
            if (what == -4) return g.calls;
            if (what == -5) return g.tests;
            return what < g.out.size() ? g.out.get(what) : NONE;
        }
        int least(int method) {
            if (!m(method)) return BAD;
            for (int x = 0; x < 10; x++) {
                Going g = new Going(weave, method, x);
                if (!g.full && g.failure > 0) return x;
            }
            return NONE;
        }
        int needed(int method, int x) {
            if (!m(method) || !in(x, 0, 9)) return BAD;
            Going with = new Going(weave, method, x);
            if (with.full) return FULL;
            int bits = 0;
            for (int i = 0; i < weave.advice.size(); i++) {
                Weave w = weave.copied();
                w.advice.get(i).below = 0;
                if (!new Going(w, method, x).end().equals(with.end())) bits += 1 << i;
            }
            return bits;
        }
        int fits(int advice, int method, int x, int row, int what) {
            if (!a(advice) || !m(method) || !in(x, 0, 9) || !in(row, 0, 7) || !in(what, 0, 2)) return BAD;
            if (rows[row] == null) return found(1);
            if (rows[row].length == 0) return found(2);
            int bits = 0;
            for (int v = 0; v <= 10; v++) {
                if (what == 0 && !in(v, 1, 5) || what == 2 && !a(v)) continue;
                Weave w = weave.copied();
                if (what == 0) become(w, advice, v);
                else if (what == 1) w.advice.get(advice).below = v;
                else swap(w, advice, v);
                Going g = new Going(w, method, x);
                if (g.full || g.out.size() < rows[row].length) continue;
                int[] head = g.out.stream().mapToInt(k -> k).limit(rows[row].length).toArray();
                if (Arrays.equals(head, rows[row])) bits += 1 << v;
            }
            return fine(bits);
        }
        int drawn(int n, int seed, int what) {
            if (weave.methods.isEmpty()) return STATE;
            if (!in(n, 0, 20) || !in(seed, 1, 999999) || !in(what, 0, 1)) return BAD;
            java.math.BigInteger x = java.math.BigInteger.valueOf(seed);
            int sum = 0;
            for (int i = 0; i < n; i++) {
                x = x.multiply(java.math.BigInteger.valueOf(16807)).mod(java.math.BigInteger.valueOf(2147483647));
                Going g = new Going(weave, x.intValue() % weave.methods.size(), (x.intValue() >> 3) % 6);
                if (g.full) continue;
                sum += what == 0 ? g.out.size() : g.failure > 0 ? 1 : 0;
            }
            return sum;
        }
        int image(int k) {
            if (!in(k, 0, 1)) return BAD;
            if (weave.methods.isEmpty()) return STATE;
            images[k] = weave.copied();
            return 1;
        }
        int restore(int k) {
            if (!in(k, 0, 1)) return BAD;
            if (images[k] == null) return STATE;
            weave = images[k].copied();
            before.clear();
            return 1;
        }
        int kind(int advice) { return a(advice) ? weave.advice.get(advice).kind() : BAD; }
        int as(int advice, int kind) {
            if (!a(advice) || !in(kind, 0, 5)) return BAD;
            Class<?>[] kinds = {Advice.class, After.class, Returning.class, Throwing.class, Around.class, Before.class};
            return kinds[kind].isInstance(weave.advice.get(advice)) ? fine(advice) : found(3);
        }
        int ask(int advice, int what) {
            if (!a(advice) || !in(what, 0, 1)) return BAD;
            trace.clear();
            Advice a = weave.advice.get(advice);
            return what == 0 ? a.size(this) : a.mark(this);
        }
        int trace(int i) { return in(i, 0, Math.min(trace.size(), 16) - 1) ? trace.get(i) : NONE; }
        int count(int what) {
            switch (what) {
                case 0: { int n = 0; for (int[] r : rows) if (r != null) n++; return n; }
                case 1: return weave.methods.size();
                case 2: return weave.advice.size();
                case 3: { int n = 0; for (Method m : weave.methods) n += m.body.size(); return n; }
                case 4: return before.size();
                case 5: return tape.length();
                default: return BAD;
            }
        }
    }

    /** One object's calls, on both at once. */
    static final class Pair {
        final Random random; final WovenCalls x = new WovenCalls(); final Model y = new Model();
        final List<String> told = new ArrayList<>();
        int calls; boolean wrong;
        static final java.util.TreeMap<String, Integer> SEEN = new java.util.TreeMap<>();

        Pair(long seed) { random = new Random(seed); }

        int below(int n) { return random.nextInt(n); }
        boolean chance(int percent) { return below(100) < percent; }
        /** Mostly from 0 to a number, at times just beside, seldom far away. */
        int about(int most) {
            if (chance(90)) return most < 0 ? 0 : below(most + 1);
            if (chance(70)) return chance(50) ? -1 : most + 1;
            return new int[] {Integer.MIN_VALUE, Integer.MAX_VALUE, -1000, 1000, 64, -64}[below(6)];
        }
        int method() { return about(y.weave.methods.size() - 1); }
        int advice() { return about(y.weave.advice.size() - 1); }

        void same(String call, int got, int want) {
            calls++;
            told.add(call + " answered " + got + ", the model " + want);
            SEEN.merge(call.substring(0, call.indexOf('(')) + " " + (want > NONE ? "answer" : "" + Math.max(want, -1000100)), 1, Integer::sum);
            if (got != want) wrong = true;
        }

        String drawText() {
            StringBuilder s = new StringBuilder();
            int methods = 1 + below(chance(5) ? 7 : 5);
            for (int m = 0; m < methods; m++) {
                s.append('m').append(below(4));
                int n = below(chance(3) ? 6 : 5);
                for (int i = 0; i < n; i++) {
                    if (chance(45)) s.append('e').append(1 + below(chance(50) ? 9 : 99));
                    else if (chance(75)) s.append('c').append(below(chance(97) ? methods : 6));
                    else s.append('f').append(1 + below(9));
                }
                s.append(';');
            }
            int advice = below(chance(5) ? 7 : 6);
            for (int a = 0; a < advice; a++) {
                s.append("artob".charAt(below(5))).append(1 + below(chance(70) ? 9 : 99)).append(',');
                s.append(chance(40) ? 4 : below(4)).append(',').append(chance(50) ? 6 : below(chance(90) ? methods : 6)).append(',');
                s.append(chance(50) ? 10 : below(11)).append(',').append(chance(50) ? 6 : below(chance(90) ? methods : 6)).append(';');
            }
            if (chance(30)) spoil(s);
            if (s.length() > 130) s.setLength(chance(30) ? 131 : 130);
            return s.toString();
        }

        void spoil(StringBuilder s) {
            String signs = "abcdefmortz,;0123456789 A\u00ff\0/:`{";
            int at = below(s.length() + 1);
            int how = below(4);
            if (how == 0 || s.length() == 0) s.insert(at, signs.charAt(below(signs.length())));
            else if (how == 1) s.deleteCharAt(below(s.length()));
            else if (how == 2) s.setCharAt(below(s.length()), signs.charAt(below(signs.length())));
            else s.setLength(at);
        }

        void text() {
            for (char c : drawText().toCharArray()) same("feed(" + (int) c + ")", x.feed(c), y.feed(c));
            if (chance(90)) same("weave()", x.weave(), y.weave());
            same("fault()", x.fault(), y.fault);
        }

        /** A row that holds what a run emits at first, so that something may fit. */
        void rowOfRun() {
            if (y.weave.methods.isEmpty()) return;
            int m = below(y.weave.methods.size()), arg = below(10), n = below(5);
            int r = below(8), lane = below(3);
            same("row(" + r + ", " + lane + ", " + n + ")", x.row(r, lane, n), y.row(r, lane, n));
            Going g = new Going(y.weave, m, arg);
            for (int i = 0; i < n && i < g.out.size(); i++) {
                int v = g.out.get(i);
                same("set(" + r + ", " + i + ", " + v + ")", x.set(r, i, v), y.set(r, i, v));
            }
            for (int what = 0; what < 3; what++) {
                int a = advice();
                same("fits(" + a + ", " + m + ", " + arg + ", " + r + ", " + what + ")", x.fits(a, m, arg, r, what), y.fits(a, m, arg, r, what));
            }
        }

        void rows() {
            int r = about(7), b = chance(50) ? r : about(7), i = about(4), j = about(4), n = about(4), lane = about(2);
            int v = chance(50) ? below(300) - 150 : random.nextInt();
            switch (below(5)) {
                case 0: { int size = chance(80) ? about(8) : about(40); same("row(" + r + ", " + lane + ", " + size + ")", x.row(r, lane, size), y.row(r, lane, size)); break; }
                case 1: case 2: same("set(" + r + ", " + i + ", " + v + ")", x.set(r, i, v), y.set(r, i, v)); break;
                case 3: same("copy(" + r + ", " + i + ", " + b + ", " + j + ", " + n + ")", x.copy(r, i, b, j, n), y.copy(r, i, b, j, n)); break;
                default: if (chance(30)) same("drop(" + r + ")", x.drop(r), y.drop(r)); break;
            }
        }

        void acts() {
            int a = advice(), b = advice(), m = method(), i, k;
            switch (below(7)) {
                case 0: i = about(2); k = about(i == 0 ? 99 : i == 1 ? 10 : 6); same("change(" + a + ", " + i + ", " + k + ")", x.change(a, i, k), y.change(a, i, k)); break;
                case 1: k = about(5); same("become(" + a + ", " + k + ")", x.become(a, k), y.become(a, k)); break;
                case 2: same("swap(" + a + ", " + b + ")", x.swap(a, b), y.swap(a, b)); break;
                case 3: { i = about(3); k = about(2); int v = about(k == 0 ? 99 : k == 1 ? 5 : 9); same("state(" + m + ", " + i + ", " + k + ", " + v + ")", x.state(m, i, k, v), y.state(m, i, k, v)); break; }
                case 4: k = about(3); same("belong(" + m + ", " + k + ")", x.belong(m, k), y.belong(m, k)); break;
                case 5: same("undo()", x.undo(), y.undo()); break;
                default: k = about(1);
                    if (chance(70)) same("image(" + k + ")", x.image(k), y.image(k));
                    else same("restore(" + k + ")", x.restore(k), y.restore(k));
                    break;
            }
        }

        void runs() {
            int m = method(), arg = about(9), k;
            switch (below(5)) {
                case 0: case 1: k = about(20) - 6; same("run(" + m + ", " + arg + ", " + k + ")", x.run(m, arg, k), y.run(m, arg, k)); break;
                case 2: same("least(" + m + ")", x.least(m), y.least(m)); break;
                case 3: same("needed(" + m + ", " + arg + ")", x.needed(m, arg), y.needed(m, arg)); break;
                default: { int n = about(20), seed = chance(90) ? 1 + below(999999) : about(999999); k = about(1); same("drawn(" + n + ", " + seed + ", " + k + ")", x.drawn(n, seed, k), y.drawn(n, seed, k)); break; }
            }
        }

        void looks() {
            int a = advice(), m = method(), k;
            switch (below(8)) {
                case 0: k = about(24); same("method(" + m + ", " + k + ")", x.method(m, k), y.method(m, k)); break;
                case 1: k = about(4); same("advice(" + a + ", " + k + ")", x.advice(a, k), y.advice(a, k)); break;
                case 2: same("ahead(" + m + ", " + a + ")", x.ahead(m, a), y.ahead(m, a)); break;
                case 3: same("kind(" + a + ")", x.kind(a), y.kind(a)); break;
                case 4: k = about(5); same("as(" + a + ", " + k + ")", x.as(a, k), y.as(a, k)); break;
                case 5: k = about(1); same("ask(" + a + ", " + k + ")", x.ask(a, k), y.ask(a, k)); break;
                case 6: k = about(7); same("trace(" + k + ")", x.trace(k), y.trace(k)); break;
                default: k = about(5); same("count(" + k + ")", x.count(k), y.count(k)); break;
            }
            same("status()", x.status(), y.status);
        }

        boolean agrees() {
            while (calls < CALLS && !wrong) {
                int draw = below(100);
                if (y.weave.methods.isEmpty() ? draw < 30 : draw < 1) text();
                else if (draw < 35) acts();
                else if (draw < 45) rows();
                else if (draw < 50) rowOfRun();
                else if (draw < 75) runs();
                else looks();
            }
            return !wrong;
        }
    }

    public static void main(String[] args) {
        int wrong = 0;
        for (int seed = 0; seed < OBJECTS && wrong < 3; seed++) {
            Pair pair = new Pair(seed);
            if (pair.agrees()) continue;
            wrong++;
            System.out.println("seed " + seed + ":");
            for (String call : pair.told) System.out.println("  " + call);
        }
        if (args.length > 0) Pair.SEEN.forEach((k, v) -> System.out.println(k + " " + v));
        System.out.println(wrong == 0 ? "the model agrees" : "the model does not agree");
        if (wrong != 0) System.exit(1);
    }
}
