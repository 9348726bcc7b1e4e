import java.math.BigInteger;

// What a value comes out as: beyond what its KIND holds, widened, kept, and in the sum that digest() is.
public final class ValuesTest {
    private static final int NO = Edits13.NONE, CAST = -37;
    private static final long MOST = Long.MAX_VALUE, LEAST = Long.MIN_VALUE;
    private static int wrong = 0;

    private static void due(String what, long got, long want) {
        if (got == want) return;
        wrong++;
        System.out.println(what + " answered " + got + ", due is " + want);
    }

    // For each KIND pairs: what a value is told by, and what it comes out as.
    private static final long[][] PAIRS = {
        {0, 0, 1, 1, -1, 1, 2, 1, 256, 1, 65536, 1, 1L << 32, 1, MOST, 1, LEAST, 1},
        {0, 0, 127, 127, 128, -128, -128, -128, -129, 127, 255, -1, 256, 0, 257, 1, 1L << 32, 0, MOST, -1, LEAST, 0},
        {0, 0, 32767, 32767, 32768, 32768, 65535, 65535, 65536, 0, 65537, 1, -1, 65535, -65536, 0, -65535, 1,
            MOST, 65535, LEAST, 0},
        {0, 0, 32767, 32767, 32768, -32768, -32768, -32768, -32769, 32767, 65535, -1, 65536, 0, MOST, -1, LEAST, 0},
        {0, 0, 2147483647L, 2147483647L, 2147483648L, -2147483648L, -2147483648L, -2147483648L,
            -2147483649L, 2147483647L, 4294967295L, -1, 4294967296L, 0, 4294967297L, 1, MOST, -1, LEAST, 0},
        {0, 0, -1, -1, 2147483648L, 2147483648L, 4294967296L, 4294967296L, MOST, MOST, LEAST, LEAST, MOST - 1, MOST - 1,
            LEAST + 1, LEAST + 1},
        {0, 0, -1, -1, 16777216, 16777216, 16777217, 16777216, 16777218, 16777218, 16777219, 16777220,
            -16777217, -16777216, 2147483647L, 2147483648L, MOST, MOST, LEAST, LEAST, LEAST + 1, LEAST,
            9223371761976868863L, 9223371487098961920L, 9223371761976868864L, MOST},
        {0, 0, -1, -1, 16777217, 16777217, 9007199254740992L, 9007199254740992L, 9007199254740993L, 9007199254740992L,
            9007199254740995L, 9007199254740996L, -9007199254740993L, -9007199254740992L, MOST, MOST, LEAST, LEAST,
            LEAST + 1, LEAST, 9223372036854775295L, 9223372036854774784L, 9223372036854775296L, MOST}};

    public static void main(String[] args) {
        for (int kind = 0; kind < 8; kind++) {
            for (int i = 0; i < PAIRS[kind].length; i += 2) comesOut(kind, PAIRS[kind][i], PAIRS[kind][i + 1]);
        }
        for (int from = 0; from < 8; from++) for (int to = 0; to < 8; to++) widens(from, to);
        widened();
        methods();
        digestOfNothing();
        digestOfAll();
        System.out.println(wrong == 0 ? "all values are as due" : wrong + " answers are not as due");
        if (wrong != 0) System.exit(1);
    }

    private static void dueMet(String what, Edits13 x, int caller, long want) {
        due(what, x.meet(caller, 0), 0);
        due(what + ", asked", x.asked(), want);
    }

    // The digest of a house with a class that has one field.
    private static long digestOfOne(long kind, long marks, long value, long edits) {
        long h = 17;
        for (long v : new long[] {0, NO, 0, 0, NO, NO, NO, 0, 0, 0, 0, marks, kind, NO, value, edits}) h = 31 * h + v;
        return h;
    }

    // By field(), set() and retype(); of a field of an object, of a static one, and of one that is kept.
    private static void comesOut(int kind, long v, long want) {
        for (int marks : new int[] {0, 1, 2, 3}) {
            String what = "1 kind " + kind + ", marks " + marks + ", " + v;
            Edits13 x = new Edits13();
            x.type(false, NO, 0);
            x.field(0, 0, kind, marks, v);
            due(what + ", digest", x.digest(), digestOfOne(kind, marks, want, 2));
            x.get(0, 0);
            dueMet(what + ", field", x, 0, want);
            Edits13 y = new Edits13();
            y.type(false, NO, 0);
            y.field(0, 0, kind, marks, 1);
            y.set(0, v);
            due(what + ", set, digest", y.digest(), digestOfOne(kind, marks, want, 3));
            y.get(0, 0);
            dueMet(what + ", set", y, 0, want);
            Edits13 z = new Edits13();
            z.type(false, NO, 0);
            z.field(0, 0, 7 - kind, marks, MOST);
            z.retype(0, kind, v);
            due(what + ", retype, digest", z.digest(), digestOfOne(kind, marks, want, 3));
            z.get(0, 0);
            dueMet(what + ", retype", z, 0, want);
        }
    }

    private static final String[] WIDE = {"0", "134567", "24567", "34567", "4567", "567", "67", "7"};

    private static void widens(int from, int to) {
        for (int marks = 0; marks < 2; marks++) {
            Edits13 x = new Edits13();
            x.type(false, NO, 0);
            x.field(0, 0, to, marks, 5);
            x.get(0, 0);
            dueMet("1 as it was made", x, 0, to == 0 ? 1 : 5);
            x.retype(0, from, 1);
            String what = "1 kind " + from + " to kind " + to;
            if (WIDE[from].indexOf('0' + to) >= 0) {
                dueMet(what, x, 0, 1);
            } else {
                due(what, x.meet(0, 0), CAST);
                due(what + ", nothing is asked for", x.asked(), to == 0 ? 1 : 5);
            }
            due(what + ", anew", x.anew(0, 0), 0);
        }
    }

    private static void dueWidened(int from, long v, int to, long want) {
        Edits13 x = new Edits13();
        x.type(false, NO, 0);
        x.field(0, 0, to, 0, 5);
        x.get(0, 0);
        x.retype(0, from, v);
        dueMet("4 " + v + " of kind " + from + " as of kind " + to, x, 0, want);
    }

    // The ends of each KIND, as they come out as a wider one.
    private static void widened() {
        for (int to : new int[] {3, 4, 5, 6, 7}) {
            dueWidened(1, 127, to, 127);
            dueWidened(1, 128, to, -128);
        }
        for (int to : new int[] {4, 5, 6, 7}) {
            dueWidened(2, 65535, to, 65535);
            dueWidened(2, -1, to, 65535);
            dueWidened(2, 65536, to, 0);
            dueWidened(3, 32767, to, 32767);
            dueWidened(3, 32768, to, -32768);
        }
        for (int to : new int[] {5, 7}) {
            dueWidened(4, 2147483647L, to, 2147483647L);
            dueWidened(4, 2147483648L, to, -2147483648L);
            dueWidened(4, 16777217, to, 16777217);
        }
        dueWidened(4, 2147483647L, 6, 2147483648L);
        dueWidened(4, 2147483648L, 6, -2147483648L);
        dueWidened(4, 16777217, 6, 16777216);
        dueWidened(4, 16777219, 6, 16777220);
        dueWidened(5, 16777217, 6, 16777216);
        dueWidened(5, MOST, 6, MOST);
        dueWidened(5, LEAST, 6, LEAST);
        dueWidened(5, 9223371761976868863L, 6, 9223371487098961920L);
        dueWidened(5, MOST, 7, MOST);
        dueWidened(5, LEAST, 7, LEAST);
        dueWidened(5, 9007199254740993L, 7, 9007199254740992L);
        dueWidened(5, 9223372036854775295L, 7, 9223372036854774784L);
        dueWidened(6, 16777217, 7, 16777216);
        dueWidened(6, MOST, 7, MOST);
        dueWidened(6, LEAST, 7, LEAST);
        dueWidened(6, 9223371761976868863L, 7, 9223371487098961920L);
    }

    private static void methods() {
        long[] told = {0, 0, 2147483647L, 2147483647L, 2147483648L, -2147483648L, -2147483648L, -2147483648L,
            -2147483649L, 2147483647L, 4294967295L, -1, 4294967296L, 0, MOST, -1, LEAST, 0};
        for (int marks = 0; marks < 2; marks++) {
            for (int i = 0; i < told.length; i += 2) {
                Edits13 x = new Edits13();
                x.type(false, NO, 0);
                x.method(0, 0, NO, NO, marks, 1);
                x.call(0, 0, NO, NO);
                x.set(0, told[i]);
                dueMet("11 a method set to " + told[i], x, 0, told[i + 1]);
                Edits13 y = new Edits13();
                y.type(false, NO, 0);
                y.method(0, 0, NO, NO, marks, (int) told[i + 1]);
                y.call(0, 0, NO, NO);
                dueMet("8 a method with " + told[i + 1], y, 0, told[i + 1]);
                y.set(0, told[i + 1]);
                due("11 the digest of a method set to " + told[i], x.digest(), y.digest());
            }
        }
    }

    private static void digestOfNothing() {
        due("28 nothing", new Edits13().digest(), 31 * 17);
        Edits13 x = new Edits13();
        x.type(false, NO, 0);
        x.make(0);
        long before = x.digest();
        x.meet(0, 0);
        x.make(0);
        due("28 callers do not count", x.digest(), before);
        x.undo();
        due("28 all taken back", x.digest(), 31 * 17);
    }

    // The sum in numbers without end, brought back to 64 bits at last.
    private static BigInteger h;

    private static void add(long v) {
        h = h.multiply(BigInteger.valueOf(31)).add(BigInteger.valueOf(v));
    }

    private static int marksOf(int m) {
        return m % 2 == 1 && m % 3 == 0 ? 8 : m % 8;
    }

    private static int firstOf(int m) {
        return m % 3 == 0 ? NO : m % 12;
    }

    private static int secondOf(int m) {
        return m % 3 < 2 ? NO : 11;
    }

    private static void digestOfAll() {
        for (long v : new long[] {0, 1, -1, MOST, LEAST, 3000000000L}) {
            Edits13 x = new Edits13();
            h = BigInteger.valueOf(17);
            int edits = 0;
            for (int t = 0; t < 12; t++) {
                x.type(t > 7, t > 7 || t == 0 ? NO : t - 1, t % 4);
                edits++;
            }
            for (int i = 0; i < 3; i++) x.face(2, 11 - i);
            x.face(8, 9);
            edits += 4;
            for (int t = 0; t < 12; t++) {
                int faces = t == 2 ? 3 : t == 8 ? 1 : 0;
                add(t > 7 ? 1 : 0);
                add(t > 7 || t == 0 ? NO : t - 1);
                add(t % 4);
                add(faces);
                add(t == 2 ? 11 : t == 8 ? 9 : NO);
                add(t == 2 ? 10 : NO);
                add(t == 2 ? 9 : NO);
            }
            for (int m = 0; m < 60; m++) {
                if (m % 2 == 0) x.field(m / 10, m % 10, m / 2 % 8, marksOf(m), v);
                else x.method(m / 10, m % 10, firstOf(m), secondOf(m), marksOf(m), (int) v);
                edits++;
            }
            x.drop(0);
            x.drop(31);
            x.drop(59);
            edits += 3;
            for (int m = 1; m < 59; m++) {
                if (m == 31) continue;
                add(m);
                add(m % 2);
                add(m / 10);
                add(m % 10);
                add(marksOf(m));
                if (m % 2 == 0) {
                    add(m / 2 % 8);
                    add(NO);
                    add(outOf(m / 2 % 8, v));
                } else {
                    add(firstOf(m));
                    add(secondOf(m));
                    add(outOf(4, v));
                }
            }
            add(edits);
            due("27 edits", x.count(3), edits);
            due("28 a sum that wraps around", x.digest(), h.longValue());
        }
    }

    private static long outOf(int kind, long v) {
        if (v == 3000000000L) return new long[] {1, 0, 24064, 24064, -1294967296L, v, v, v}[kind];
        if (v == MOST) return new long[] {1, -1, 65535, -1, -1, v, v, v}[kind];
        if (v == LEAST) return new long[] {1, 0, 0, 0, 0, v, v, v}[kind];
        if (v == -1) return new long[] {1, -1, 65535, -1, -1, -1, -1, -1}[kind];
        return v;
    }
}
