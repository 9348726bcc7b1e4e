import java.util.ArrayList;
import java.util.Arrays;
import java.util.List;
import java.util.Random;
import java.util.TreeSet;

// Long runs of calls, compared with a plain model of the document that goes every way to its end,
// keeps a copy of the house behind each edit, and shares no code with the program.
public final class ModelTest {
    private static final int NO = -2;
    private static final int RUNS = 6000, CALLS = 512;

    private static final class T {
        boolean face;
        int above;
        int marks;
        List<Integer> faces = new ArrayList<>();

        T copy() {
            T t = new T();
            t.face = face;
            t.above = above;
            t.marks = marks;
            t.faces = new ArrayList<>(faces);
            return t;
        }
    }

    private static final class M {
        boolean method;
        int type;
        int name;
        int marks;
        int kind;
        int[] parameters = {};
        Number number;

        M copy() {
            M m = new M();
            m.method = method;
            m.type = type;
            m.name = name;
            m.marks = marks;
            m.kind = kind;
            m.parameters = parameters;
            m.number = number;
            return m;
        }

        boolean has(int mark) {
            return (marks & mark) != 0;
        }

        boolean like(M o) {
            return method == o.method && name == o.name && (!method || Arrays.equals(parameters, o.parameters));
        }
    }

    private static Number numberOf(int kind, long v) {
        switch (kind) {
            case 0: return v != 0 ? 1 : 0;
            case 1: return (byte) v;
            case 2: return (int) (char) v;
            case 3: return (short) v;
            case 4: return (int) v;
            case 5: return v;
            case 6: return (float) v;
            default: return (double) v;
        }
    }

    private static long comesOut(int kind, Number n) {
        if (kind == 6) return (long) n.floatValue();
        if (kind == 7) return (long) n.doubleValue();
        return n.longValue();
    }

    private static final String[] WIDE = {"0", "134567", "24567", "34567", "4567", "567", "67", "7"};

    private static final class C {
        int sort, t, n, then;
        int[] arguments = {}, parameters = {};
        boolean keeps, isStatic, ofFace;
        long kept;
        int kind;
    }

    private static final class H {
        List<T> types = new ArrayList<>();
        M[] members = new M[60];

        H copy() {
            H h = new H();
            for (T t : types) h.types.add(t.copy());
            for (int i = 0; i < 60; i++) h.members[i] = members[i] == null ? null : members[i].copy();
            return h;
        }

        boolean is(int t) {
            return t >= 0 && t < types.size();
        }

        boolean isClass(int t) {
            return is(t) && !types.get(t).face;
        }

        boolean below(int t, int o) {
            if (t == o) return true;
            if (types.get(t).above != NO && below(types.get(t).above, o)) return true;
            for (int f : types.get(t).faces) if (below(f, o)) return true;
            return false;
        }

        boolean below(int[] a, int[] b) {
            if (a.length != b.length) return false;
            for (int i = 0; i < a.length; i++) if (!below(a[i], b[i])) return false;
            return true;
        }

        M own(int t, M like) {
            for (M m : members) if (m != null && m.type == t && m.like(like)) return m;
            return null;
        }

        M look(int t, M like, boolean passHidden) {
            M m = own(t, like);
            if (m != null && !(passHidden && m.has(4))) return m;
            List<Integer> next = new ArrayList<>(types.get(t).faces);
            if (types.get(t).above != NO) next.add(like.method ? 0 : next.size(), types.get(t).above);
            for (int o : next) {
                M found = look(o, like, passHidden);
                if (found != null) return found;
            }
            return null;
        }

        void allFaces(int t, TreeSet<Integer> into) {
            if (types.get(t).face) into.add(t);
            for (int f : types.get(t).faces) allFaces(f, into);
            if (types.get(t).above != NO) allFaces(types.get(t).above, into);
        }

        // A member's number; -2 nothing; -3 abstract; -4 clash.
        int select(int t, M like) {
            for (int c = t; c != NO; c = types.get(c).above) {
                M m = own(c, like);
                if (m != null && !m.has(1) && !m.has(4)) return m.has(8) ? -3 : numberOf(m);
            }
            TreeSet<Integer> faces = new TreeSet<>();
            allFaces(t, faces);
            faces.removeIf(f -> own(f, like) == null || own(f, like).has(1) || own(f, like).has(4));
            TreeSet<Integer> nearest = new TreeSet<>(faces);
            nearest.removeIf(f -> faces.stream().anyMatch(g -> !g.equals(f) && below(g, f)));
            List<M> full = new ArrayList<>();
            for (int f : nearest) if (!own(f, like).has(8)) full.add(own(f, like));
            if (full.size() == 1) return numberOf(full.get(0));
            if (full.size() > 1) return -4;
            return nearest.isEmpty() ? -2 : -3;
        }

        int numberOf(M m) {
            for (int i = 0; i < 60; i++) if (members[i] == m) return i;
            throw new IllegalStateException();
        }

        M like(C c) {
            M m = new M();
            m.method = c.sort == 1;
            m.name = c.n;
            m.parameters = c.parameters;
            return m;
        }

        int bind(C c) {
            if (c.sort == 2) return types.get(c.t).face || (types.get(c.t).marks & 1) != 0 ? 3 : 0;
            if (c.sort == 0) {
                M m = look(c.t, like(c), true);
                if (m == null) return 1;
                c.isStatic = m.has(1);
                c.kind = m.kind;
                c.keeps = m.has(1) && m.has(2);
                c.kept = comesOut(m.kind, m.number);
                return 0;
            }
            List<M> fit = new ArrayList<>();
            for (M m : members) {
                if (m == null || !m.method || m.name != c.n || m.has(4)) continue;
                if (below(c.arguments, m.parameters) && look(c.t, m, false) == m) fit.add(m);
            }
            if (fit.isEmpty()) return 1;
            for (M m : fit) {
                if (!fit.stream().allMatch(o -> below(m.parameters, o.parameters))) continue;
                c.parameters = m.parameters;
                c.isStatic = m.has(1);
                c.ofFace = types.get(c.t).face;
                return 0;
            }
            return 2;
        }

        int read(int t) {
            T type = types.get(t);
            if (type.above != NO) {
                int failure = read(type.above);
                if (failure != 0) return failure;
            }
            for (int f : type.faces) {
                int failure = read(f);
                if (failure != 0) return failure;
            }
            if (type.above != NO && (types.get(type.above).marks & 2) != 0) return 1;
            for (M m : members) {
                if (m == null || m.type != t || !m.method || m.has(1) || m.has(4)) continue;
                for (int up = type.above; up != NO; up = types.get(up).above) {
                    M o = own(up, m);
                    if (o != null && o.has(2) && !o.has(1) && !o.has(4)) return 2;
                }
            }
            return 0;
        }

        // The failure and what was met.
        long[] meet(C c, int r) {
            if (!is(c.t)) return fails(3);
            for (int p : c.parameters) if (!is(p)) return fails(3);
            if (c.keeps) return new long[] {0, c.kept};
            int failure = read(c.t);
            if (failure != 0) return fails(failure);
            if (c.sort == 2) {
                boolean hollow = !types.get(c.t).face && (types.get(c.t).marks & 1) != 0;
                return hollow ? fails(9) : new long[] {0, c.t};
            }
            if (c.sort == 1 && types.get(c.t).face != c.ofFace) return fails(5);
            M m = look(c.t, like(c), false);
            if (m == null) return fails(3);
            if (m.has(4)) return fails(4);
            if (m.has(1) != c.isStatic) return fails(5);
            if (!m.has(1)) {
                failure = read(r);
                if (failure != 0) return fails(failure);
                if (!below(r, c.t)) return fails(6);
            }
            if (c.sort == 0) {
                if (WIDE[m.kind].indexOf('0' + c.kind) < 0) return fails(7);
                return new long[] {0, comesOut(c.kind, m.number)};
            }
            if (m.has(1)) return new long[] {0, m.number.longValue()};
            int chosen = select(r, m);
            if (chosen == -2 || chosen == -3) return fails(8);
            if (chosen == -4) return fails(5);
            return new long[] {0, members[chosen].number.longValue()};
        }

        long[] fails(int failure) {
            return new long[] {failure, 0};
        }

        int free() {
            for (int i = 0; i < 60; i++) if (members[i] == null) return i;
            return -3;
        }

        int size() {
            int n = 0;
            for (M m : members) if (m != null) n++;
            return n;
        }
    }

    private final List<H> houses = new ArrayList<>();
    private final List<C> callers = new ArrayList<>();
    private long asked = 0;

    private ModelTest() {
        houses.add(new H());
    }

    private H now() {
        return houses.get(houses.size() - 1);
    }

    private int edits() {
        return houses.size() - 1;
    }

    private boolean full() {
        return edits() == 120;
    }

    private H next() {
        H h = now().copy();
        houses.add(h);
        return h;
    }

    private int type(boolean face, int above, int marks) {
        if (marks < 0 || marks > 3) return -1;
        if (face && above != NO) return -1;
        if (!face && above != NO && !now().isClass(above)) return -1;
        if (now().types.size() == 12 || full()) return -3;
        T t = new T();
        t.face = face;
        t.above = above;
        t.marks = marks;
        next().types.add(t);
        return now().types.size() - 1;
    }

    private int above(int type, int above) {
        if (!now().isClass(type) || (above != NO && !now().isClass(above))) return -1;
        if (above != NO && now().below(above, type)) return -4;
        if (full()) return -3;
        next().types.get(type).above = above;
        return 1;
    }

    private int face(int type, int face) {
        if (!now().is(type) || !now().is(face) || now().isClass(face)) return -1;
        if (now().types.get(type).faces.contains(face) || now().types.get(type).faces.size() == 3) return -1;
        if (now().below(face, type)) return -4;
        if (full()) return -3;
        next().types.get(type).faces.add(face);
        return now().types.get(type).faces.size();
    }

    private int unface(int type, int i) {
        if (!now().is(type) || i < 0 || i >= now().types.get(type).faces.size()) return -1;
        if (full()) return -3;
        next().types.get(type).faces.remove(i);
        return now().types.get(type).faces.size();
    }

    private int marks(int type, int m) {
        if (!now().is(type) || m < 0 || m > 3) return -1;
        if (full()) return -3;
        int was = now().types.get(type).marks;
        next().types.get(type).marks = m;
        return was;
    }

    private boolean goodMarks(M m) {
        if (m.method && m.has(8)) return m.marks == 8;
        if (m.marks < 0 || m.marks > 7) return false;
        return m.method || now().isClass(m.type) || m.has(1);
    }

    private int come(M m) {
        if (m.name < 0 || m.name > 9 || !goodMarks(m) || now().own(m.type, m) != null) return -1;
        int free = now().free();
        if (free == -3 || full()) return -3;
        next().members[free] = m;
        return free;
    }

    private int field(int type, int name, int kind, int marks, long v) {
        if (!now().is(type) || kind < 0 || kind > 7) return -1;
        M m = new M();
        m.type = type;
        m.name = name;
        m.kind = kind;
        m.marks = marks;
        m.number = numberOf(kind, v);
        return come(m);
    }

    private int[] types(int a, int b) {
        if (a == NO && b == NO) return new int[] {};
        if (b == NO) return now().is(a) ? new int[] {a} : null;
        return now().is(a) && now().is(b) ? new int[] {a, b} : null;
    }

    private int method(int type, int name, int a, int b, int marks, int v) {
        if (!now().is(type) || types(a, b) == null) return -1;
        M m = new M();
        m.method = true;
        m.type = type;
        m.name = name;
        m.marks = marks;
        m.parameters = types(a, b);
        m.number = v;
        return come(m);
    }

    private M at(int m) {
        return m < 0 || m > 59 ? null : now().members[m];
    }

    private int drop(int m) {
        if (at(m) == null) return -1;
        if (full()) return -3;
        next().members[m] = null;
        return 1;
    }

    private int mark(int m, int marks) {
        if (at(m) == null) return -1;
        M with = at(m).copy();
        with.marks = marks;
        if (!goodMarks(with)) return -1;
        if (full()) return -3;
        int was = at(m).marks;
        next().members[m] = with;
        return was;
    }

    private int set(int m, long v) {
        if (at(m) == null) return -1;
        if (full()) return -3;
        next();
        at(m).number = at(m).method ? (Number) (int) v : numberOf(at(m).kind, v);
        return 1;
    }

    private int retype(int m, int kind, long v) {
        if (at(m) == null || at(m).method || kind < 0 || kind > 7) return -1;
        if (full()) return -3;
        next();
        at(m).kind = kind;
        at(m).number = numberOf(kind, v);
        return 1;
    }

    private int move(int m, int type) {
        if (at(m) == null || !now().is(type) || at(m).type == type || now().own(type, at(m)) != null) return -1;
        M with = at(m).copy();
        with.type = type;
        if (!goodMarks(with)) return -1;
        if (full()) return -3;
        next().members[m] = with;
        return 1;
    }

    private int undo() {
        if (edits() == 0) return NO;
        houses.remove(edits());
        return edits();
    }

    private int keep(C c) {
        if (callers.size() == 24) return -3;
        int fault = now().bind(c);
        if (fault != 0) return -10 - fault;
        c.then = edits();
        callers.add(c);
        return callers.size() - 1;
    }

    private C named(int sort, int t, int n, int... arguments) {
        C c = new C();
        c.sort = sort;
        c.t = t;
        c.n = n;
        c.arguments = arguments;
        return c;
    }

    private int get(int t, int n) {
        return !now().is(t) || n < 0 || n > 9 ? -1 : keep(named(0, t, n));
    }

    private int call(int t, int n, int a, int b) {
        return !now().is(t) || n < 0 || n > 9 || types(a, b) == null ? -1 : keep(named(1, t, n, types(a, b)));
    }

    private int make(int t) {
        return !now().is(t) ? -1 : keep(named(2, t, NO));
    }

    private int ask(C c, int r) {
        long[] met = now().meet(c, r);
        if (met[0] != 0) return -30 - (int) met[0];
        asked = met[1];
        return 0;
    }

    private boolean bad(int c, int r) {
        return c < 0 || c >= callers.size() || !now().isClass(r);
    }

    private int meet(int c, int r) {
        return bad(c, r) ? -1 : ask(callers.get(c), r);
    }

    private int anew(int c, int r) {
        if (bad(c, r)) return -1;
        C old = callers.get(c);
        if (!now().is(old.t)) return NO;
        for (int a : old.arguments) if (!now().is(a)) return NO;
        C anew = named(old.sort, old.t, old.n, old.arguments);
        int fault = now().bind(anew);
        return fault != 0 ? -10 - fault : ask(anew, r);
    }

    private int culprit(int c, int r) {
        if (bad(c, r)) return -1;
        int then = callers.get(c).then;
        if (edits() < then) return NO;
        if (!houses.get(then).isClass(r)) return -1;
        long[] first = houses.get(then).meet(callers.get(c), r);
        for (int i = then + 1; i <= edits(); i++) {
            if (!Arrays.equals(first, houses.get(i).meet(callers.get(c), r))) return i;
        }
        return 0;
    }

    private int caller(int c, int what) {
        if (c < 0 || c >= callers.size() || what < 0 || what > 6) return -1;
        C of = callers.get(c);
        int[] p = Arrays.copyOf(of.parameters, 2);
        for (int i = of.parameters.length; i < 2; i++) p[i] = NO;
        return new int[] {of.sort, of.t, of.n, p[0], p[1], of.keeps ? 1 : 0, of.then}[what];
    }

    private int told(int t, int what) {
        if (!now().is(t) || what < 0 || what > 6) return -1;
        T of = now().types.get(t);
        if (what > 3) return what - 4 < of.faces.size() ? of.faces.get(what - 4) : NO;
        return new int[] {of.face ? 1 : 0, of.above, of.marks, of.faces.size()}[what];
    }

    private int below(int t, int o) {
        if (!now().is(t) || !now().is(o)) return -1;
        return now().below(t, o) ? 1 : 0;
    }

    private int member(int m, int what) {
        if (at(m) == null || what < 0 || what > 5) return -1;
        M of = at(m);
        int n = of.parameters.length;
        int first = of.method ? (n > 0 ? of.parameters[0] : NO) : of.kind;
        return new int[] {of.method ? 1 : 0, of.type, of.name, of.marks, first, n > 1 ? of.parameters[1] : NO}[what];
    }

    private int selected(int t, int m) {
        if (!now().isClass(t) || at(m) == null || !at(m).method) return -1;
        int chosen = now().select(t, at(m));
        return chosen == -3 ? NO : chosen;
    }

    private int count(int what) {
        if (what < 0 || what > 3) return -1;
        return new int[] {now().types.size(), now().size(), callers.size(), edits()}[what];
    }

    private long digest() {
        long h = 17;
        for (int t = 0; t < now().types.size(); t++) for (int w = 0; w < 7; w++) h = 31 * h + told(t, w);
        for (int m = 0; m < 60; m++) {
            if (at(m) == null) continue;
            h = 31 * h + m;
            for (int w = 0; w < 6; w++) h = 31 * h + member(m, w);
            h = 31 * h + comesOut(at(m).method ? 4 : at(m).kind, at(m).number);
        }
        return 31 * h + edits();
    }

    // ---- the runs

    private static final long[] VALUES = {
        0, 1, -1, 127, 128, 300, 32768, 65535, 65536, 16777217, -16777217, 1L << 31, -(1L << 31) - 1,
        9007199254740993L, Long.MAX_VALUE, Long.MIN_VALUE, Long.MAX_VALUE - 1000};

    // How often each refusal was answered, so that no run of this test passes by meeting none.
    private static final int[] REFUSED = new int[50];

    private final Edits13 x = new Edits13();
    private Random dice;
    private int names;
    private int wildness;

    // A number below a limit, and now and then one that is not.
    private int some(int limit) {
        if (dice.nextInt(wildness) == 0) {
            return new int[] {-3, -2, -1, limit, limit + 1, 60, 1 << 31, 32}[dice.nextInt(8)];
        }
        return limit <= 0 ? 0 : dice.nextInt(limit);
    }

    private int someType() {
        return some(now().types.size());
    }

    private int someOf(boolean face) {
        int t = someType();
        for (int i = 0; i < 6 && now().is(t) && now().types.get(t).face != face; i++) t = someType();
        return t;
    }

    private int someBelow(int other) {
        int t = someType();
        for (int i = 0; i < 8 && below(t, other) != 1; i++) t = someType();
        return t;
    }

    private int someMember(boolean method) {
        int m = some(now().size() + 1);
        for (int i = 0; i < 6 && (at(m) == null || at(m).method != method); i++) m = some(now().size() + 1);
        return m;
    }

    private int maybeType() {
        return dice.nextInt(3) == 0 ? NO : someType();
    }

    private int someMarks(boolean method) {
        if (dice.nextInt(20) == 0) return some(17);
        return method ? new int[] {0, 0, 0, 1, 2, 2, 8, 4}[dice.nextInt(8)] : new int[] {0, 1, 3, 1, 5}[dice.nextInt(5)];
    }

    private long someValue() {
        return dice.nextInt(3) == 0 ? dice.nextLong() : VALUES[dice.nextInt(VALUES.length)];
    }

    private int someName() {
        return dice.nextInt(60) == 0 ? some(11) : dice.nextInt(names);
    }

    private int someTypeMarks() {
        return dice.nextInt(4) == 0 ? some(4) : 0;
    }

    private long[] edit(int which) {
        int t = someType(), n = someName(), k = some(8);
        boolean method = dice.nextBoolean(), face = dice.nextInt(3) == 0;
        int m = someMember(method), marks = someMarks(method), typeMarks = someTypeMarks();
        long v = someValue();
        int a = maybeType(), b = a == NO && dice.nextInt(9) != 0 ? NO : maybeType();
        int above = face && dice.nextInt(9) != 0 || dice.nextInt(3) == 0 ? NO : someOf(false);
        switch (which) {
            case 0: return pair(x.type(face, above, typeMarks), type(face, above, typeMarks));
            case 1: t = someOf(false); return pair(x.above(t, above), above(t, above));
            case 2: k = someOf(true); return pair(x.face(t, k), face(t, k));
            case 3: k = some(3); return pair(x.unface(t, k), unface(t, k));
            case 4: return pair(x.marks(t, typeMarks), marks(t, typeMarks));
            case 5: marks = someMarks(false); return pair(x.field(t, n, k, marks, v), field(t, n, k, marks, v));
            case 6: marks = someMarks(true);
                return pair(x.method(t, n, a, b, marks, (int) v), method(t, n, a, b, marks, (int) v));
            case 7: return pair(x.drop(m), drop(m));
            case 8: return pair(x.mark(m, marks), mark(m, marks));
            case 9: return pair(x.set(m, v), set(m, v));
            case 10: m = someMember(false); return pair(x.retype(m, k, v), retype(m, k, v));
            case 11: return pair(x.move(m, t), move(m, t));
            default: return pair(x.undo(), undo());
        }
    }

    private long[] other(int which) {
        int t = someType(), o = someType(), n = someName(), c = some(callers.size()), r = someOf(false);
        // What a caller names is most often near the class that it meets.
        if (c >= 0 && c < callers.size() && dice.nextInt(3) != 0) {
            for (int i = 0; i < 8 && !(now().isClass(r) && below(r, callers.get(c).t) == 1); i++) r = someOf(false);
        }
        int a = maybeType(), b = a == NO && dice.nextInt(9) != 0 ? NO : maybeType(), w = some(7);
        int m = someMember(true);
        switch (which) {
            case 0: return pair(x.get(t, n), get(t, n));
            case 1:
                // Arguments as a method there is takes them, so that some fit.
                if (at(m) != null && at(m).method && dice.nextInt(4) != 0) {
                    t = someBelow(at(m).type);
                    n = at(m).name;
                    a = at(m).parameters.length > 0 ? someBelow(at(m).parameters[0]) : NO;
                    b = at(m).parameters.length > 1 ? someBelow(at(m).parameters[1]) : NO;
                }
                return pair(x.call(t, n, a, b), call(t, n, a, b));
            case 2: return pair(x.make(r), make(r));
            case 3: return pair(x.caller(c, w), caller(c, w));
            case 4: return pair(x.told(t, w), told(t, w));
            case 5: return pair(x.below(t, o), below(t, o));
            case 6: return pair(x.member(m, w), member(m, w));
            case 7: return pair(x.selected(r, m), selected(r, m));
            case 8: return pair(x.count(w), count(w));
            case 9: case 10: return pair(x.culprit(c, r), culprit(c, r));
            case 11: case 12: return pair(x.anew(c, r), anew(c, r));
            default: return pair(x.meet(c, r), meet(c, r));
        }
    }

    private static long[] pair(long got, long want) {
        return new long[] {got, want};
    }

    private boolean run(int seed) {
        dice = new Random(seed);
        names = 1 + dice.nextInt(3);
        wildness = seed % 10 == 0 ? 8 : 300;
        int opening = 30 + dice.nextInt(60), undoes = dice.nextInt(4) == 0 ? 6 : 1, editing = 2 + dice.nextInt(4);
        for (int i = 0; i + 3 <= CALLS; i += 3) {
            boolean edits = i < opening || dice.nextInt(editing) == 0;
            int which;
            if (i < opening) which = new int[] {0, 0, 0, 2, 6, 6, 5}[dice.nextInt(7)];
            else which = edits ? dice.nextInt(12 + undoes) : callers.size() < 6 ? dice.nextInt(3) : dice.nextInt(18);
            long[] answers = edits ? edit(which) : other(which);
            if (answers[0] < 0) REFUSED[(int) -answers[0]]++;
            if (answers[0] == answers[1] && x.asked() == asked && x.digest() == digest()) continue;
            System.out.println("seed " + seed + ", step " + i / 3 + ", " + (edits ? "edit " : "call ") + which
                + ": answered " + answers[0] + ", due is " + answers[1]);
            return false;
        }
        return true;
    }

    public static void main(String[] args) {
        int wrong = 0;
        for (int seed = 0; seed < RUNS; seed++) if (!new ModelTest().run(seed)) wrong++;
        for (int code : new int[] {1, 2, 3, 4, 11, 12, 13, 31, 32, 33, 34, 35, 36, 37, 38, 39}) {
            if (REFUSED[code] >= 20) continue;
            wrong++;
            System.out.println("hardly a run answered -" + code);
        }
        System.out.println(wrong == 0 ? "all runs are as due" : wrong + " runs are not as due");
        if (wrong != 0) System.exit(1);
    }
}
