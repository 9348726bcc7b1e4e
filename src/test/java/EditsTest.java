// Promises 1 to 14: a new object, and the edits with their refusals.
public final class EditsTest {
    private static final int NO = Edits13.NONE, BAD = Edits13.BAD, FULL = Edits13.FULL, RING = Edits13.RING;
    private static int wrong = 0;

    private static void due(String what, long got, long want) {
        if (got == want) return;
        wrong++;
        System.out.println(what + " answered " + got + ", due is " + want);
    }

    public static void main(String[] args) {
        newObject();
        type();
        above();
        face();
        unface();
        marks();
        field();
        method();
        drop();
        mark();
        set();
        retype();
        move();
        undo();
        editLimit();
        System.out.println(wrong == 0 ? "edits are as due" : wrong + " answers are not as due");
        if (wrong != 0) System.exit(1);
    }

    private static void newObject() {
        Edits13 x = new Edits13();
        for (int what = 0; what < 4; what++) due("1 count " + what, x.count(what), 0);
        due("1 asked", x.asked(), 0);
        due("1 digest", x.digest(), 17 * 31);
        due("1 told", x.told(0, 0), BAD);
        due("1 member", x.member(0, 0), BAD);
        due("1 caller", x.caller(0, 0), BAD);
        due("1 undo", x.undo(), NO);
    }

    private static void type() {
        Edits13 x = new Edits13();
        due("2 marks -1", x.type(false, NO, -1), BAD);
        due("2 marks 4", x.type(true, NO, 4), BAD);
        due("2 above absent", x.type(false, 0, 0), BAD);
        due("2 above -1", x.type(false, -1, 0), BAD);
        due("2 class", x.type(false, NO, 3), 0);
        due("2 face", x.type(true, NO, 1), 1);
        due("2 face with above", x.type(true, 0, 0), BAD);
        due("2 face with face above", x.type(true, 1, 0), BAD);
        due("2 class below face", x.type(false, 1, 0), BAD);
        due("2 class below class", x.type(false, 0, 0), 2);
        due("2 told face", x.told(1, 0), 1);
        due("2 told above", x.told(2, 1), 0);
        due("2 told marks", x.told(0, 2), 3);
        due("2 refusals are no edits", x.count(3), 3);
        for (int t = 3; t < 12; t++) due("2 type " + t, x.type(t % 2 == 0, NO, 0), t);
        due("2 twelve", x.type(false, NO, 0), FULL);
        due("2 bad ahead of full", x.type(false, NO, 4), BAD);
        due("2 count", x.count(0), 12);
    }

    private static void above() {
        Edits13 x = new Edits13();
        for (int t = 0; t < 4; t++) x.type(false, NO, 0);
        x.type(true, NO, 0);
        due("3 up", x.above(0, 1), 1);
        due("3 told", x.told(0, 1), 1);
        due("3 further up", x.above(1, 2), 1);
        due("3 self", x.above(3, 3), RING);
        due("3 ring of three", x.above(2, 0), RING);
        due("3 face above", x.above(0, 4), BAD);
        due("3 of a face", x.above(4, NO), BAD);
        due("3 absent", x.above(0, 5), BAD);
        due("3 of absent", x.above(5, 0), BAD);
        due("3 above -1", x.above(0, -1), BAD);
        due("3 none", x.above(0, NO), 1);
        due("3 told none", x.told(0, 1), NO);
        due("3 no ring any more", x.above(2, 0), 1);
        due("3 the same again", x.above(2, 0), 1);
    }

    private static void face() {
        Edits13 x = new Edits13();
        x.type(false, NO, 0);
        for (int t = 1; t < 6; t++) x.type(true, NO, 0);
        due("4 first", x.face(0, 2), 1);
        due("4 twice", x.face(0, 2), BAD);
        due("4 second", x.face(0, 1), 2);
        due("4 class as face", x.face(1, 0), BAD);
        due("4 absent", x.face(0, 6), BAD);
        due("4 of absent", x.face(6, 1), BAD);
        due("4 negative", x.face(0, -2), BAD);
        due("4 third", x.face(0, 3), 3);
        due("4 fourth", x.face(0, 4), BAD);
        due("4 told", x.told(0, 3), 3);
        due("4 order", x.told(0, 4), 2);
        due("4 order", x.told(0, 5), 1);
        due("4 order", x.told(0, 6), 3);
        due("4 self", x.face(1, 1), RING);
        due("4 chain", x.face(1, 4), 1);
        due("4 chain", x.face(4, 5), 1);
        due("4 ring", x.face(5, 1), RING);
        due("4 had through another", x.face(1, 5), 2);
        x.face(5, 2);
        x.face(5, 3);
        Edits13 y = new Edits13();
        for (int t = 0; t < 4; t++) y.type(true, NO, 0);
        for (int t = 1; t < 4; t++) y.face(0, t);
        due("4 three go ahead of a ring", y.face(0, 0), BAD);
    }

    private static void unface() {
        Edits13 x = new Edits13();
        x.type(false, NO, 0);
        for (int t = 1; t < 4; t++) {
            x.type(true, NO, 0);
            x.face(0, t);
        }
        due("5 absent type", x.unface(4, 0), BAD);
        due("5 too far", x.unface(0, 3), BAD);
        due("5 negative", x.unface(0, -1), BAD);
        due("5 middle", x.unface(0, 1), 2);
        due("5 left", x.told(0, 4), 1);
        due("5 left", x.told(0, 5), 3);
        due("5 gone", x.told(0, 6), NO);
        due("5 not below", x.below(0, 2), 0);
        due("5 still below", x.below(0, 3), 1);
        due("5 last", x.unface(0, 1), 1);
        due("5 first", x.unface(0, 0), 0);
        due("5 none left", x.unface(0, 0), BAD);
        due("5 again", x.face(0, 2), 1);
    }

    private static void marks() {
        Edits13 x = new Edits13();
        x.type(false, NO, 1);
        due("6 absent", x.marks(1, 0), BAD);
        due("6 four", x.marks(0, 4), BAD);
        due("6 negative", x.marks(0, -1), BAD);
        due("6 was 1", x.marks(0, 3), 1);
        due("6 was 3", x.marks(0, 0), 3);
        due("6 told", x.told(0, 2), 0);
        due("6 the same is an edit too", x.marks(0, 0), 0);
        due("6 edits", x.count(3), 4);
    }

    private static void field() {
        Edits13 x = new Edits13();
        x.type(false, NO, 0);
        x.type(true, NO, 0);
        due("7 absent type", x.field(2, 0, 0, 0, 0), BAD);
        due("7 name -1", x.field(0, -1, 0, 0, 0), BAD);
        due("7 name 10", x.field(0, 10, 0, 0, 0), BAD);
        due("7 kind -1", x.field(0, 0, -1, 0, 0), BAD);
        due("7 kind 8", x.field(0, 0, 8, 0, 0), BAD);
        due("7 marks -1", x.field(0, 0, 0, -1, 0), BAD);
        due("7 marks 8", x.field(0, 0, 0, 8, 0), BAD);
        due("7 first", x.field(0, 9, 7, 7, 0), 0);
        due("7 like", x.field(0, 9, 1, 0, 0), BAD);
        due("7 other name", x.field(0, 8, 1, 0, 0), 1);
        due("7 face, not static", x.field(1, 9, 1, 6, 0), BAD);
        due("7 face, static", x.field(1, 9, 1, 5, 0), 2);
        x.drop(1);
        due("7 the least free number", x.field(1, 0, 0, 1, 0), 1);
        due("7 a method of the name is not like it", x.method(0, 1, NO, NO, 0, 0), 3);
        due("7 field beside method", x.field(0, 1, 0, 0, 0), 4);
        Edits13 y = filled();
        due("7 sixty", y.field(11, 9, 0, 0, 0), FULL);
        due("7 bad ahead of full", y.field(0, 0, 0, 0, 0), BAD);
        due("7 sixty for methods", y.method(11, 9, NO, NO, 0, 0), FULL);
        due("7 bad ahead of full, methods", y.method(11, 10, NO, NO, 0, 0), BAD);
        y.drop(30);
        due("7 one free", y.field(11, 9, 0, 0, 0), 30);
    }

    private static Edits13 filled() {
        Edits13 y = new Edits13();
        for (int t = 0; t < 12; t++) y.type(false, NO, 0);
        for (int m = 0; m < 60; m++) y.field(m / 6, m % 6, 0, 0, 0);
        due("7 count", y.count(1), 60);
        return y;
    }

    private static void method() {
        Edits13 x = new Edits13();
        x.type(false, NO, 0);
        x.type(true, NO, 0);
        due("8 absent type", x.method(2, 0, NO, NO, 0, 0), BAD);
        due("8 name -1", x.method(0, -1, NO, NO, 0, 0), BAD);
        due("8 name 10", x.method(0, 10, NO, NO, 0, 0), BAD);
        due("8 a absent", x.method(0, 0, 2, NO, 0, 0), BAD);
        due("8 b absent", x.method(0, 0, 0, 2, 0, 0), BAD);
        due("8 a -1", x.method(0, 0, -1, NO, 0, 0), BAD);
        due("8 b -1", x.method(0, 0, 0, -1, 0, 0), BAD);
        due("8 a none, b not", x.method(0, 0, NO, 0, 0, 0), BAD);
        due("8 marks -1", x.method(0, 0, NO, NO, -1, 0), BAD);
        for (int m = 9; m < 17; m++) due("8 marks " + m, x.method(0, 0, NO, NO, m, 0), BAD);
        due("8 none", x.method(0, 0, NO, NO, 8, 0), 0);
        due("8 one", x.method(0, 0, 0, NO, 7, 0), 1);
        due("8 other one", x.method(0, 0, 1, NO, 0, 0), 2);
        due("8 two", x.method(0, 0, 0, 1, 0, 0), 3);
        due("8 two turned", x.method(0, 0, 1, 0, 0, 0), 4);
        due("8 like, none", x.method(0, 0, NO, NO, 0, 0), BAD);
        due("8 like, two", x.method(0, 0, 0, 1, 1, 0), BAD);
        due("8 in a face, not static", x.method(1, 0, 0, 1, 0, 0), 5);
        x.drop(0);
        due("8 the least free number", x.method(1, 0, 0, 0, 0, 0), 0);
    }

    private static void drop() {
        Edits13 x = new Edits13();
        x.type(false, NO, 0);
        x.field(0, 0, 0, 0, 1);
        x.method(0, 0, NO, NO, 0, 1);
        due("9 absent", x.drop(2), BAD);
        due("9 negative", x.drop(-2), BAD);
        due("9 sixty", x.drop(60), BAD);
        due("9 field", x.drop(0), 1);
        due("9 twice", x.drop(0), BAD);
        due("9 gone", x.member(0, 0), BAD);
        due("9 other stays", x.member(1, 0), 1);
        due("9 count", x.count(1), 1);
    }

    private static void mark() {
        Edits13 x = new Edits13();
        x.type(false, NO, 0);
        x.type(true, NO, 0);
        x.field(0, 0, 0, 0, 1);
        x.field(1, 0, 0, 1, 1);
        x.method(0, 0, NO, NO, 0, 1);
        x.method(1, 0, NO, NO, 0, 1);
        due("10 absent", x.mark(4, 0), BAD);
        due("10 negative", x.mark(-1, 0), BAD);
        due("10 field 8", x.mark(0, 8), BAD);
        due("10 field -1", x.mark(0, -1), BAD);
        due("10 field", x.mark(0, 7), 0);
        due("10 field was", x.mark(0, 0), 7);
        due("10 face's field, not static", x.mark(1, 6), BAD);
        due("10 face's field", x.mark(1, 7), 1);
        due("10 method 9", x.mark(2, 9), BAD);
        due("10 method 10", x.mark(2, 10), BAD);
        due("10 method 12", x.mark(2, 12), BAD);
        due("10 method 16", x.mark(2, 16), BAD);
        due("10 method abstract", x.mark(2, 8), 0);
        due("10 method was", x.mark(2, 7), 8);
        due("10 told", x.member(2, 3), 7);
        due("10 face's method", x.mark(3, 4), 0);
    }

    private static long valueOfField(int kind, long v) {
        Edits13 x = new Edits13();
        x.type(false, NO, 0);
        x.field(0, 0, kind, 1, 0);
        x.get(0, 0);
        due("11 set", x.set(0, v), 1);
        due("11 meet", x.meet(0, 0), 0);
        return x.asked();
    }

    private static void set() {
        due("11 truth", valueOfField(0, 256), 1);
        due("11 truth", valueOfField(0, 1L << 40), 1);
        due("11 no truth", valueOfField(0, 0), 0);
        due("11 byte", valueOfField(1, 200), -56);
        due("11 char", valueOfField(2, -1), 65535);
        due("11 short", valueOfField(3, 40000), -25536);
        due("11 int", valueOfField(4, (1L << 35) + 7), 7);
        due("11 int", valueOfField(4, 1L << 31), Integer.MIN_VALUE);
        due("11 long", valueOfField(5, Long.MIN_VALUE + 1), Long.MIN_VALUE + 1);
        due("11 float", valueOfField(6, 16777217), 16777216);
        due("11 float", valueOfField(6, Long.MAX_VALUE), Long.MAX_VALUE);
        due("11 double", valueOfField(7, 9007199254740993L), 9007199254740992L);
        due("11 double", valueOfField(7, 16777217), 16777217);
        Edits13 x = new Edits13();
        x.type(false, NO, 0);
        x.method(0, 0, NO, NO, 0, 5);
        x.call(0, 0, NO, NO);
        due("11 method", x.set(0, (1L << 32) + (1L << 31)), 1);
        x.meet(0, 0);
        due("11 its lowest bits", x.asked(), Integer.MIN_VALUE);
        due("11 absent", x.set(1, 0), BAD);
        due("11 negative", x.set(-1, 0), BAD);
    }

    private static void retype() {
        Edits13 x = new Edits13();
        x.type(false, NO, 0);
        x.field(0, 0, 5, 1, 300);
        x.method(0, 0, NO, NO, 0, 5);
        due("12 method", x.retype(1, 0, 0), BAD);
        due("12 absent", x.retype(2, 0, 0), BAD);
        due("12 negative", x.retype(-1, 0, 0), BAD);
        due("12 kind 8", x.retype(0, 8, 0), BAD);
        due("12 kind -1", x.retype(0, -1, 0), BAD);
        due("12 byte", x.retype(0, 1, 300), 1);
        due("12 told", x.member(0, 4), 1);
        x.get(0, 0);
        x.meet(0, 0);
        due("12 value", x.asked(), 44);
        due("12 the same kind", x.retype(0, 1, 2), 1);
        due("12 marks stay", x.member(0, 3), 1);
    }

    private static void move() {
        Edits13 x = new Edits13();
        x.type(false, NO, 0);
        x.type(false, NO, 0);
        x.type(true, NO, 0);
        x.field(0, 0, 5, 0, 300);
        x.field(1, 0, 5, 0, 300);
        x.method(0, 0, 0, NO, 0, 5);
        x.method(1, 0, 1, NO, 0, 5);
        due("13 own", x.move(0, 0), BAD);
        due("13 own method", x.move(2, 0), BAD);
        due("13 like", x.move(0, 1), BAD);
        due("13 absent member", x.move(4, 0), BAD);
        due("13 absent type", x.move(0, 3), BAD);
        due("13 negative", x.move(-1, -1), BAD);
        due("13 face gets a field", x.move(0, 2), BAD);
        x.mark(0, 1);
        due("13 face gets a static field", x.move(0, 2), 1);
        due("13 told", x.member(0, 1), 2);
        due("13 method", x.move(2, 1), 1);
        due("13 method to a face", x.move(2, 2), 1);
        due("13 no longer there", x.method(0, 0, 0, NO, 0, 0), 4);
        due("13 like method", x.move(4, 2), BAD);
    }

    private static void undo() {
        Edits13 x = new Edits13();
        long[] digests = new long[40];
        int n = 0;
        digests[n++] = x.digest();
        x.type(false, NO, 0);
        digests[n++] = x.digest();
        x.type(false, 0, 1);
        digests[n++] = x.digest();
        x.type(true, NO, 0);
        digests[n++] = x.digest();
        x.type(true, NO, 0);
        digests[n++] = x.digest();
        x.face(1, 3);
        digests[n++] = x.digest();
        x.face(1, 2);
        digests[n++] = x.digest();
        x.unface(1, 0);
        digests[n++] = x.digest();
        x.above(1, NO);
        digests[n++] = x.digest();
        x.marks(1, 2);
        digests[n++] = x.digest();
        x.field(1, 3, 6, 1, 99);
        digests[n++] = x.digest();
        x.method(2, 3, 1, 2, 4, -7);
        digests[n++] = x.digest();
        x.retype(0, 2, -1);
        digests[n++] = x.digest();
        x.set(0, 77);
        digests[n++] = x.digest();
        x.mark(1, 8);
        digests[n++] = x.digest();
        x.move(0, 0);
        digests[n++] = x.digest();
        x.drop(0);
        digests[n++] = x.digest();
        x.method(0, 0, NO, NO, 0, 3);
        digests[n++] = x.digest();
        due("14 edits", x.count(3), n - 1);
        due("14 a refusal is no edit", x.drop(5), BAD);
        for (int i = n - 2; i >= 0; i--) {
            due("14 undo to " + i, x.undo(), i);
            due("14 digest at " + i, x.digest(), digests[i]);
            due("14 below at " + i, x.below(1, 0), i >= 2 ? (i >= 8 ? 0 : 1) : BAD);
        }
        due("14 none", x.undo(), NO);
        due("14 a number again", x.type(true, NO, 0), 0);
    }

    private static void editLimit() {
        Edits13 x = new Edits13();
        x.type(true, NO, 0);
        x.type(false, NO, 0);
        x.method(1, 0, NO, NO, 0, 0);
        for (int i = 3; i < 120; i++) due("5 edit " + i, x.set(0, i), 1);
        due("120 edits", x.count(3), 120);
        due("120 set", x.set(0, 0), FULL);
        due("120 type", x.type(false, NO, 0), FULL);
        due("120 above", x.above(1, NO), FULL);
        due("120 face", x.face(1, 0), FULL);
        due("120 marks", x.marks(0, 0), FULL);
        due("120 field", x.field(1, 0, 0, 0, 0), FULL);
        due("120 method", x.method(1, 1, NO, NO, 0, 0), FULL);
        due("120 drop", x.drop(0), FULL);
        due("120 mark", x.mark(0, 0), FULL);
        due("120 move", x.move(0, 0), FULL);
        due("120 ring goes ahead", x.face(0, 0), RING);
        due("120 ring goes ahead", x.above(1, 1), RING);
        due("120 bad goes ahead", x.unface(0, 0), BAD);
        due("120 callers are no edits", x.make(1), 0);
        due("120 undo", x.undo(), 119);
        due("119 there is room", x.face(1, 0), 1);
        due("120 unface", x.unface(1, 0), FULL);
    }
}
