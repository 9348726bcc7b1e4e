// Promises 15 to 22: callers, what they meet, what they would meet anew, and the culprit.
public final class CallersTest {
    private static final int NO = Edits13.NONE, BAD = Edits13.BAD, FULL = Edits13.FULL;
    private static final int NO_SUCH = -11, MANY = -12, NOT_MADE = -13;
    private static final int BARRED = -31, BROKEN = -32, LOST = -33, CLOSED = -34, CHANGED = -35;
    private static final int UNLIKE = -36, CAST = -37, EMPTY = -38, HOLLOW = -39;
    private static int wrong = 0;

    private static void due(String what, long got, long want) {
        if (got == want) return;
        wrong++;
        System.out.println(what + " answered " + got + ", due is " + want);
    }

    private static void dueMet(String what, Edits13 x, int caller, int r, long want) {
        due(what, x.meet(caller, r), 0);
        due(what + ", asked", x.asked(), want);
    }

    public static void main(String[] args) {
        get();
        getLooks();
        call();
        callLooks();
        callHidden();
        callMany();
        make();
        full();
        meetField();
        meetWidening();
        meetStaticField();
        meetMethod();
        meetFaceMethod();
        meetNew();
        read();
        readOrder();
        lost();
        asked();
        anew();
        anewNames();
        culprit();
        culpritThen();
        caller();
        System.out.println(wrong == 0 ? "callers are as due" : wrong + " answers are not as due");
        if (wrong != 0) System.exit(1);
    }

    private static void get() {
        Edits13 x = new Edits13();
        x.type(false, NO, 0);
        x.field(0, 0, 4, 0, 7);
        x.method(0, 1, NO, NO, 0, 7);
        due("15 absent type", x.get(1, 0), BAD);
        due("15 none", x.get(NO, 0), BAD);
        due("15 name 10", x.get(0, 10), BAD);
        due("15 name -1", x.get(0, -1), BAD);
        due("15 no such", x.get(0, 2), NO_SUCH);
        due("15 a method is no field", x.get(0, 1), NO_SUCH);
        due("15 first", x.get(0, 0), 0);
        due("15 second", x.get(0, 0), 1);
        x.mark(0, 4);
        due("15 hidden", x.get(0, 0), NO_SUCH);
        due("15 refused ones are none", x.count(2), 2);
        due("15 callers are no edits", x.count(3), 4);
    }

    // 0 is below 1 and has the faces 2, 3; 1 has the face 4; 2 has the face 4.
    private static Edits13 family() {
        Edits13 x = new Edits13();
        x.type(false, NO, 0);
        x.type(false, NO, 0);
        for (int t = 2; t < 5; t++) x.type(true, NO, 0);
        x.above(0, 1);
        x.face(0, 2);
        x.face(0, 3);
        x.face(1, 4);
        x.face(2, 4);
        return x;
    }

    private static void getLooks() {
        Edits13 x = family();
        for (int t = 0; t < 5; t++) x.field(t, 0, 4, 1, 100 + t);
        due("15 look", x.get(0, 0), 0);
        dueMet("2 own", x, 0, 0, 100);
        x.drop(0);
        dueMet("2 first face", x, 0, 0, 102);
        x.drop(2);
        dueMet("2 face of the first face", x, 0, 0, 104);
        x.drop(4);
        dueMet("2 second face", x, 0, 0, 103);
        x.drop(3);
        dueMet("2 above", x, 0, 0, 101);
        x.field(2, 0, 4, 5, 102);
        due("2 hidden is not passed over when met", x.meet(0, 0), CLOSED);
        due("2 hidden is passed over when made", x.get(0, 0), 1);
        due("2 it met the hidden one", x.meet(1, 0), CLOSED);
        due("2 anew", x.anew(0, 0), CLOSED);
    }

    private static void call() {
        Edits13 x = new Edits13();
        x.type(false, NO, 0);
        x.type(false, 0, 0);
        x.method(0, 0, 0, NO, 0, 7);
        x.field(0, 1, 4, 0, 7);
        due("16 absent type", x.call(2, 0, 0, NO), BAD);
        due("16 name 10", x.call(0, 10, 0, NO), BAD);
        due("16 name -1", x.call(0, -1, 0, NO), BAD);
        due("16 argument absent", x.call(0, 0, 2, NO), BAD);
        due("16 second argument absent", x.call(0, 0, 0, 2), BAD);
        due("16 only a second argument", x.call(0, 0, NO, 0), BAD);
        due("16 argument -1", x.call(0, 0, -1, NO), BAD);
        due("16 too few arguments", x.call(0, 0, NO, NO), NO_SUCH);
        due("16 too many arguments", x.call(0, 0, 0, 0), NO_SUCH);
        due("16 other name", x.call(0, 2, 0, NO), NO_SUCH);
        due("16 a field is no method", x.call(0, 1, NO, NO), NO_SUCH);
        due("16 itself", x.call(0, 0, 0, NO), 0);
        due("16 argument below", x.call(1, 0, 1, NO), 1);
        due("16 the parameter is kept", x.caller(1, 3), 0);
        x.method(0, 0, 1, NO, 0, 8);
        due("16 the closer one", x.call(1, 0, 1, NO), 2);
        due("16 its parameter", x.caller(2, 3), 1);
        dueMet("16 old", x, 1, 1, 7);
        dueMet("16 new", x, 2, 1, 8);
        x.drop(0);
        due("16 argument above", x.call(0, 0, 0, NO), NO_SUCH);
    }

    private static void callLooks() {
        Edits13 x = family();
        for (int t = 0; t < 5; t++) x.method(t, 0, NO, NO, 1, 100 + t);
        due("16 look", x.call(0, 0, NO, NO), 0);
        dueMet("2 own", x, 0, 0, 100);
        x.drop(0);
        dueMet("2 above", x, 0, 0, 101);
        x.drop(1);
        dueMet("2 face of above", x, 0, 0, 104);
        x.drop(4);
        dueMet("2 first face", x, 0, 0, 102);
        x.drop(2);
        dueMet("2 second face", x, 0, 0, 103);
        x.drop(3);
        due("2 none", x.meet(0, 0), LOST);
    }

    private static void callHidden() {
        Edits13 x = new Edits13();
        x.type(false, NO, 0);
        x.type(false, 0, 0);
        x.method(0, 0, NO, NO, 0, 7);
        x.method(1, 0, NO, NO, 4, 8);
        due("16 the found one is hidden, the other not found", x.call(1, 0, NO, NO), NO_SUCH);
        x.method(0, 1, 0, NO, 0, 7);
        x.method(1, 1, 1, NO, 4, 8);
        due("16 a hidden one does not fit", x.call(1, 1, 1, NO), 0);
        due("16 the wider one", x.caller(0, 3), 0);
    }

    private static void callMany() {
        Edits13 x = new Edits13();
        x.type(false, NO, 0);
        x.type(false, 0, 0);
        x.method(0, 0, 0, 1, 0, 1);
        x.method(0, 0, 1, 0, 0, 2);
        due("16 many", x.call(0, 0, 1, 1), MANY);
        due("16 only one fits", x.call(0, 0, 0, 1), 0);
        due("16 parameters", x.caller(0, 3), 0);
        due("16 parameters", x.caller(0, 4), 1);
        x.method(1, 0, 0, 0, 0, 3);
        due("16 still many", x.call(1, 0, 1, 1), MANY);
        x.method(0, 0, 1, 1, 0, 4);
        due("16 closest of all", x.call(1, 0, 1, 1), 1);
        dueMet("16 met", x, 1, 1, 4);
        due("16 in the type below only", x.call(0, 0, 0, 0), NO_SUCH);
        due("16 there", x.call(1, 0, 0, 0), 2);
    }

    private static void make() {
        Edits13 x = new Edits13();
        x.type(false, NO, 2);
        x.type(false, NO, 1);
        x.type(true, NO, 0);
        due("17 absent", x.make(3), BAD);
        due("17 none", x.make(NO), BAD);
        due("17 class", x.make(0), 0);
        due("17 abstract", x.make(1), NOT_MADE);
        due("17 face", x.make(2), NOT_MADE);
        x.type(false, 0, 0);
        due("17 nothing is read when made", x.make(3), 1);
        due("17 barred when met", x.meet(1, 0), BARRED);
    }

    private static void full() {
        Edits13 x = new Edits13();
        x.type(false, NO, 0);
        x.type(true, NO, 0);
        for (int c = 0; c < 24; c++) due("17 caller " + c, x.make(0), c);
        due("17 full", x.make(0), FULL);
        due("17 full ahead of faults", x.make(1), FULL);
        due("15 full ahead of faults", x.get(0, 0), FULL);
        due("16 full ahead of faults", x.call(0, 0, NO, NO), FULL);
        due("17 bad ahead of full", x.make(2), BAD);
        due("15 bad ahead of full", x.get(0, 10), BAD);
        due("16 bad ahead of full", x.call(0, 0, NO, 0), BAD);
        due("20 anew needs no room", x.anew(23, 0), 0);
        due("17 count", x.count(2), 24);
        due("18 the last one", x.meet(23, 0), 0);
        due("18 no such", x.meet(24, 0), BAD);
    }

    private static void meetField() {
        Edits13 x = new Edits13();
        x.type(false, NO, 0);
        x.type(false, 0, 0);
        x.type(false, NO, 0);
        x.type(true, NO, 0);
        x.field(0, 0, 4, 0, 7);
        x.get(1, 0);
        due("18 no caller", x.meet(1, 0), BAD);
        due("18 negative caller", x.meet(-1, 0), BAD);
        due("18 r absent", x.meet(0, 4), BAD);
        due("18 r a face", x.meet(0, 3), BAD);
        due("18 r none", x.meet(0, NO), BAD);
        dueMet("18 value", x, 0, 1, 7);
        due("18 unlike", x.meet(0, 0), UNLIKE);
        due("18 unlike", x.meet(0, 2), UNLIKE);
        x.set(0, 8);
        dueMet("18 it is the value now", x, 0, 1, 8);
        x.retype(0, 5, 9);
        due("18 unlike ahead of cast", x.meet(0, 2), UNLIKE);
        due("18 cast", x.meet(0, 1), CAST);
        x.mark(0, 1);
        due("18 changed ahead of unlike", x.meet(0, 2), CHANGED);
        x.mark(0, 5);
        due("18 closed ahead of changed", x.meet(0, 2), CLOSED);
        x.drop(0);
        due("18 lost", x.meet(0, 1), LOST);
        x.field(1, 0, 3, 2, -3);
        dueMet("18 another one, final but not static", x, 0, 1, -3);
    }

    private static void meetWidening() {
        String[] wide = {"0", "134567", "24567", "34567", "4567", "567", "67", "7"};
        for (int from = 0; from < 8; from++) {
            for (int to = 0; to < 8; to++) {
                Edits13 x = new Edits13();
                x.type(false, NO, 0);
                x.field(0, 0, to, 0, 1);
                x.get(0, 0);
                x.retype(0, from, 1);
                boolean good = wide[from].indexOf('0' + to) >= 0;
                due("1 widens " + from + " to " + to, x.meet(0, 0), good ? 0 : CAST);
            }
        }
        Edits13 x = new Edits13();
        x.type(false, NO, 0);
        x.field(0, 0, 6, 0, 1);
        x.field(0, 1, 7, 0, 1);
        x.get(0, 0);
        x.get(0, 1);
        x.retype(0, 5, 16777217);
        dueMet("18 a long as a float", x, 0, 0, 16777216);
        x.retype(0, 4, -16777217);
        dueMet("18 an int as a float", x, 0, 0, -16777216);
        x.retype(0, 2, -1);
        dueMet("18 a char as a float", x, 0, 0, 65535);
        x.retype(1, 5, 9007199254740993L);
        dueMet("18 a long as a double", x, 1, 0, 9007199254740992L);
        x.retype(1, 6, 16777217);
        dueMet("18 a float as a double", x, 1, 0, 16777216);
        x.retype(1, 6, Long.MAX_VALUE);
        dueMet("18 the greatest float as a double", x, 1, 0, Long.MAX_VALUE);
    }

    private static void meetStaticField() {
        Edits13 x = new Edits13();
        x.type(false, NO, 0);
        x.type(false, NO, 0);
        x.type(true, NO, 0);
        x.field(2, 0, 4, 1, 7);
        x.face(0, 2);
        x.get(0, 0);
        dueMet("18 r need not be below", x, 0, 1, 7);
        x.mark(0, 3);
        x.set(0, 8);
        dueMet("18 final later is not kept", x, 0, 1, 8);
        x.get(0, 0);
        x.set(0, 9);
        dueMet("18 kept", x, 1, 1, 8);
        x.retype(0, 0, 1);
        due("18 cast of a static one", x.meet(0, 1), CAST);
        x.type(false, NO, 2);
        x.above(0, 3);
        due("18 it reads", x.meet(0, 1), BARRED);
        dueMet("18 what was kept reads nothing", x, 1, 0, 8);
        x.drop(0);
        dueMet("18 kept for ever", x, 1, 0, 8);
        x.above(0, NO);
        x.above(1, 3);
        x.field(0, 0, 4, 1, 6);
        dueMet("18 of a static one r is not read", x, 0, 1, 6);
        x.mark(0, 0);
        due("18 not static any more", x.meet(0, 1), CHANGED);
    }

    private static void meetMethod() {
        Edits13 x = new Edits13();
        x.type(false, NO, 0);
        x.type(false, 0, 0);
        x.type(false, NO, 0);
        x.type(true, NO, 0);
        x.method(0, 0, NO, NO, 0, 7);
        x.method(1, 0, NO, NO, 0, 8);
        x.call(0, 0, NO, NO);
        due("18 r a face", x.meet(0, 3), BAD);
        dueMet("18 own", x, 0, 0, 7);
        dueMet("18 selected for r", x, 0, 1, 8);
        due("18 unlike", x.meet(0, 2), UNLIKE);
        x.mark(1, 1);
        dueMet("18 a static one is not selected", x, 0, 1, 7);
        x.mark(1, 8);
        due("18 empty", x.meet(0, 1), EMPTY);
        dueMet("18 not for the other one", x, 0, 0, 7);
        due("18 unlike ahead of empty", x.meet(0, 2), UNLIKE);
        x.mark(0, 1);
        due("18 changed", x.meet(0, 2), CHANGED);
        x.call(0, 0, NO, NO);
        dueMet("18 static", x, 1, 2, 7);
        x.set(0, 17);
        dueMet("18 no value of a method is kept", x, 1, 2, 17);
        x.mark(0, 0);
        due("18 changed the other way", x.meet(1, 0), CHANGED);
        x.mark(0, 5);
        due("18 closed", x.meet(0, 0), CLOSED);
        due("18 closed", x.meet(1, 0), CLOSED);
        x.drop(0);
        due("18 lost", x.meet(1, 0), LOST);
        x.method(0, 0, 0, NO, 0, 9);
        due("18 another with parameters is not like", x.meet(0, 0), LOST);
    }

    private static void meetFaceMethod() {
        Edits13 x = new Edits13();
        x.type(true, NO, 0);
        x.type(true, NO, 0);
        x.type(false, NO, 0);
        x.method(0, 0, NO, NO, 0, 7);
        x.call(0, 0, NO, NO);
        due("18 unlike", x.meet(0, 2), UNLIKE);
        x.face(2, 0);
        dueMet("18 from the face", x, 0, 2, 7);
        x.face(2, 1);
        x.method(1, 0, NO, NO, 0, 8);
        due("18 clash", x.meet(0, 2), CHANGED);
        x.mark(1, 8);
        dueMet("18 one abstract", x, 0, 2, 7);
        x.mark(0, 8);
        due("18 both abstract", x.meet(0, 2), EMPTY);
        x.mark(1, 4);
        x.mark(0, 0);
        x.method(2, 0, NO, NO, 4, 9);
        dueMet("18 a hidden one of r is not selected", x, 0, 2, 7);
        for (int i = 0; i < 12; i++) x.undo();
        due("18 no edits", x.count(3), 0);
        x.type(false, NO, 0);
        x.method(0, 0, NO, NO, 0, 7);
        due("18 a class that was a face", x.meet(0, 0), CHANGED);
        x.mark(0, 4);
        due("18 that goes ahead of closed", x.meet(0, 0), CHANGED);
        x.mark(0, 1);
        x.call(0, 0, NO, NO);
        for (int i = 0; i < 4; i++) x.undo();
        x.type(true, NO, 0);
        x.type(false, NO, 0);
        x.method(0, 0, NO, NO, 1, 7);
        due("18 a face that was a class", x.meet(1, 1), CHANGED);
    }

    private static void meetNew() {
        Edits13 x = new Edits13();
        x.type(false, NO, 0);
        x.type(false, NO, 0);
        x.make(1);
        dueMet("18 new", x, 0, 0, 1);
        x.marks(1, 2);
        dueMet("18 final", x, 0, 0, 1);
        x.marks(1, 3);
        due("18 abstract", x.meet(0, 0), HOLLOW);
        x.above(1, 0);
        x.marks(0, 2);
        due("18 barred ahead of hollow", x.meet(0, 0), BARRED);
        for (int i = 0; i < 5; i++) x.undo();
        x.type(true, NO, 1);
        dueMet("18 a face is not abstract", x, 0, 0, 1);
        due("20 but cannot be made", x.anew(0, 0), NOT_MADE);
    }

    private static void read() {
        Edits13 x = new Edits13();
        x.type(false, NO, 0);
        x.type(false, 0, 0);
        x.type(false, 1, 0);
        x.method(0, 0, 0, NO, 2, 7);
        x.method(2, 0, 0, NO, 1, 8);
        x.make(2);
        dueMet("18 static does not break", x, 0, 0, 2);
        x.mark(1, 4);
        dueMet("18 hidden does not break", x, 0, 0, 2);
        x.mark(1, 8);
        due("18 abstract breaks, two above", x.meet(0, 0), BROKEN);
        x.mark(0, 3);
        dueMet("18 a static final one is not broken", x, 0, 0, 2);
        x.mark(0, 6);
        dueMet("18 a hidden final one is not broken", x, 0, 0, 2);
        x.mark(0, 0);
        dueMet("18 one not final is not broken", x, 0, 0, 2);
        x.mark(0, 2);
        x.mark(1, 2);
        due("18 final breaks", x.meet(0, 0), BROKEN);
        x.move(1, 1);
        due("18 broken above", x.meet(0, 0), BROKEN);
        x.type(true, NO, 2);
        x.move(0, 3);
        x.face(1, 3);
        dueMet("18 a final one of a final face", x, 0, 0, 2);
        x.field(0, 0, 4, 2, 0);
        x.field(1, 0, 4, 0, 0);
        dueMet("18 fields break nothing", x, 0, 0, 2);
    }

    private static void readOrder() {
        Edits13 x = new Edits13();
        x.type(false, NO, 0);
        x.type(false, 0, 0);
        x.type(false, 1, 0);
        x.method(0, 0, NO, NO, 2, 7);
        x.method(1, 0, NO, NO, 0, 8);
        x.make(2);
        x.marks(1, 2);
        due("18 what is above is read first", x.meet(0, 0), BROKEN);
        x.marks(0, 2);
        due("18 barred ahead of broken", x.meet(0, 0), BARRED);
        x.marks(0, 0);
        x.drop(1);
        due("18 barred below", x.meet(0, 0), BARRED);
        x.marks(1, 0);
        x.field(0, 0, 4, 0, 5);
        x.get(0, 0);
        x.call(0, 0, NO, NO);
        x.type(false, NO, 2);
        x.type(false, 3, 0);
        due("18 r is read ahead of unlike, get", x.meet(1, 4), BARRED);
        due("18 r is read ahead of unlike, call", x.meet(2, 4), BARRED);
        x.mark(0, 3);
        x.mark(1, 1);
        due("18 changed ahead of reading r", x.meet(1, 4), CHANGED);
        due("18 changed ahead of reading r", x.meet(2, 4), CHANGED);
        due("18 new does not look at r", x.meet(0, 4), 0);
    }

    private static void lost() {
        Edits13 x = new Edits13();
        x.type(false, NO, 0);
        x.type(false, NO, 0);
        x.field(1, 0, 4, 3, 7);
        x.get(1, 0);
        x.make(1);
        x.undo();
        dueMet("5 kept", x, 0, 0, 7);
        x.undo();
        due("5 the type is no more, ahead of what was kept", x.meet(0, 0), LOST);
        due("5 new", x.meet(1, 0), LOST);
        due("20 a type named is no more", x.anew(0, 0), NO);
        due("20 a type named is no more", x.anew(1, 0), NO);
        due("20 bad ahead of that", x.anew(1, 1), BAD);
        x.type(false, NO, 0);
        dueMet("5 a type has the number again", x, 1, 0, 1);
        dueMet("5 kept", x, 0, 0, 7);
        Edits13 y = new Edits13();
        y.type(false, NO, 0);
        y.method(0, 0, 0, NO, 0, 5);
        y.type(false, 0, 0);
        y.call(0, 0, 1, NO);
        y.method(0, 0, 1, NO, 0, 6);
        y.call(0, 0, 1, NO);
        y.undo();
        due("18 lost", y.meet(1, 0), LOST);
        y.undo();
        dueMet("5 an argument is no parameter", y, 0, 0, 5);
        due("20 but it was named", y.anew(0, 0), NO);
        Edits13 z = new Edits13();
        z.type(false, NO, 2);
        z.type(false, 0, 0);
        z.type(false, NO, 0);
        z.method(1, 0, 2, NO, 0, 5);
        z.method(1, 0, 0, 2, 0, 5);
        z.call(1, 0, 2, NO);
        z.call(1, 0, 0, 2);
        due("5 barred", z.meet(0, 0), BARRED);
        due("5 barred", z.meet(1, 0), BARRED);
        for (int i = 0; i < 3; i++) z.undo();
        due("5 a first parameter is no more, ahead of barred", z.meet(0, 0), LOST);
        due("5 a second parameter is no more, ahead of barred", z.meet(1, 0), LOST);
    }

    private static void asked() {
        Edits13 x = new Edits13();
        x.type(false, NO, 0);
        x.field(0, 0, 4, 0, 7);
        x.get(0, 0);
        due("19 before", x.asked(), 0);
        x.meet(0, 0);
        due("19 met", x.asked(), 7);
        x.set(0, 8);
        due("19 stays", x.asked(), 7);
        x.culprit(0, 0);
        due("19 a culprit asks for nothing", x.asked(), 7);
        x.anew(0, 0);
        due("19 anew asks", x.asked(), 8);
        x.mark(0, 4);
        due("19 closed", x.meet(0, 0), CLOSED);
        due("19 stays at a failure", x.asked(), 8);
        due("19 a fault", x.anew(0, 0), NO_SUCH);
        due("19 stays at a fault", x.asked(), 8);
        x.undo();
        x.undo();
        due("19 undo asks for nothing", x.asked(), 8);
    }

    private static void anew() {
        Edits13 x = new Edits13();
        x.type(false, NO, 0);
        x.type(false, 0, 0);
        x.type(true, NO, 0);
        x.field(0, 0, 4, 0, 7);
        x.get(1, 0);
        due("20 no caller", x.anew(1, 0), BAD);
        due("20 r a face", x.anew(0, 2), BAD);
        due("20 unlike", x.anew(0, 0), UNLIKE);
        x.retype(0, 5, 1L << 40);
        due("20 old: cast", x.meet(0, 1), CAST);
        due("20 anew", x.anew(0, 1), 0);
        due("20 anew, asked", x.asked(), 1L << 40);
        x.mark(0, 1);
        due("20 old: changed", x.meet(0, 0), CHANGED);
        due("20 anew static", x.anew(0, 0), 0);
        x.mark(0, 3);
        x.type(false, NO, 2);
        x.above(0, 3);
        due("20 old: barred", x.meet(0, 0), BARRED);
        due("20 anew kept", x.anew(0, 0), 0);
        due("20 the caller stays as it was", x.caller(0, 5), 0);
        due("20 the caller stays as it was", x.meet(0, 0), BARRED);
        x.drop(0);
        due("20 no such", x.anew(0, 0), NO_SUCH);
        due("20 none is made", x.count(2), 1);
    }

    private static void anewNames() {
        Edits13 x = new Edits13();
        x.type(false, NO, 0);
        x.type(false, 0, 0);
        x.method(0, 0, 0, NO, 0, 5);
        x.call(0, 0, 1, NO);
        x.method(0, 0, 1, NO, 0, 6);
        dueMet("20 old", x, 0, 0, 5);
        due("20 with the arguments that were named", x.anew(0, 0), 0);
        due("20 asked", x.asked(), 6);
        due("20 the parameter stays", x.caller(0, 3), 0);
        Edits13 y = new Edits13();
        y.type(false, NO, 0);
        y.type(false, 0, 0);
        y.method(0, 0, 1, 0, 0, 5);
        y.call(0, 0, 1, 1);
        y.method(0, 0, 0, 1, 0, 6);
        due("20 many", y.anew(0, 0), MANY);
        dueMet("20 old", y, 0, 0, 5);
        y.drop(0);
        due("20 old", y.meet(0, 0), LOST);
        due("20 the other one", y.anew(0, 0), 0);
        due("20 asked", y.asked(), 6);
    }

    private static void culprit() {
        Edits13 x = new Edits13();
        x.type(false, NO, 0);
        x.field(0, 0, 4, 0, 7);
        x.get(0, 0);
        due("21 none", x.culprit(0, 0), 0);
        due("21 no caller", x.culprit(1, 0), BAD);
        due("21 r absent", x.culprit(0, 1), BAD);
        x.type(false, NO, 0);
        due("21 r was no class then", x.culprit(0, 1), BAD);
        x.field(0, 1, 4, 0, 7);
        x.set(0, 7);
        due("21 the same value", x.culprit(0, 0), 0);
        x.set(0, 8);
        due("21 something else", x.culprit(0, 0), 6);
        x.set(0, 7);
        due("21 the first stays, though it is as it was", x.culprit(0, 0), 6);
        x.drop(0);
        due("21 the first, not the last", x.culprit(0, 0), 6);
        long before = x.digest();
        x.culprit(0, 0);
        due("21 nothing changes", x.digest(), before);
        x.get(0, 1);
        due("21 from its making on", x.culprit(1, 0), 0);
        due("21 r then a class by now", x.culprit(1, 1), 0);
        x.mark(1, 4);
        due("21 a failure", x.culprit(1, 0), 9);
        due("21 on an r that is unlike", x.culprit(1, 1), 9);
        for (int i = 0; i < 3; i++) x.undo();
        due("21 fewer edits", x.culprit(1, 0), NO);
        due("21 bad ahead of that", x.culprit(1, 2), BAD);
        due("21 enough for the other one", x.culprit(0, 0), 6);
        for (int i = 0; i < 4; i++) x.undo();
        due("21 as many as then", x.culprit(0, 0), 0);
    }

    private static void culpritThen() {
        Edits13 x = new Edits13();
        x.type(false, NO, 0);
        x.type(false, NO, 0);
        x.make(1);
        x.undo();
        x.marks(0, 1);
        x.marks(0, 0);
        x.type(false, NO, 1);
        x.marks(1, 0);
        due("21 lost behind that many, then something else", x.culprit(0, 0), 4);
        x.undo();
        x.undo();
        due("21 lost all along", x.culprit(0, 0), 0);
        x.undo();
        x.undo();
        x.undo();
        x.type(true, NO, 0);
        x.marks(0, 1);
        x.type(false, NO, 0);
        due("21 r was no class behind that many", x.culprit(0, 1), BAD);
    }

    private static void dueCaller(Edits13 x, int c, int... want) {
        for (int what = 0; what < 7; what++) due("22 caller " + c + " " + what, x.caller(c, what), want[what]);
    }

    private static void caller() {
        Edits13 x = new Edits13();
        x.type(false, NO, 0);
        x.type(false, 0, 0);
        x.field(1, 3, 4, 1, 7);
        x.get(1, 3);
        x.mark(0, 3);
        x.get(1, 3);
        x.method(0, 9, 0, 1, 0, 7);
        x.method(0, 8, NO, NO, 0, 7);
        x.method(0, 7, 0, NO, 0, 7);
        x.call(1, 9, 1, 1);
        x.call(0, 8, NO, NO);
        x.call(0, 7, 1, NO);
        x.make(1);
        dueCaller(x, 0, 0, 1, 3, NO, NO, 0, 3);
        dueCaller(x, 1, 0, 1, 3, NO, NO, 1, 4);
        dueCaller(x, 2, 1, 1, 9, 0, 1, 0, 7);
        dueCaller(x, 3, 1, 0, 8, NO, NO, 0, 7);
        dueCaller(x, 4, 1, 0, 7, 0, NO, 0, 7);
        dueCaller(x, 5, 2, 1, NO, NO, NO, 0, 7);
        due("22 no caller", x.caller(6, 0), BAD);
        due("22 negative", x.caller(-1, 0), BAD);
        due("22 what 7", x.caller(0, 7), BAD);
        due("22 what -1", x.caller(0, -1), BAD);
        for (int i = 0; i < 7; i++) x.undo();
        dueCaller(x, 2, 1, 1, 9, 0, 1, 0, 7);
    }
}
