import java.util.Arrays;
import java.util.function.IntUnaryOperator;

// For every number that a call takes: the last good ones, the first bad ones on both sides, and bad ones far off;
// a house in which nothing is yet, and one in which all places are taken. A refused call changes nothing.
public final class BoundsTest {
    private static final int NO = Edits13.NONE, BAD = Edits13.BAD, FULL = Edits13.FULL;
    private static int wrong = 0;

    private interface House {
        Edits13 built();
    }

    private interface Call {
        long on(Edits13 x);
    }

    private interface Numbered {
        long on(Edits13 x, int n);
    }

    private static void due(String what, long got, long want) {
        if (got == want) return;
        wrong++;
        System.out.println(what + " answered " + got + ", due is " + want);
    }

    public static void main(String[] args) {
        nothingYet();
        numbersOfTypes();
        numbersOfClasses();
        numbersOfFaces();
        namesAndKinds();
        marksOfTypes();
        marksOfFields();
        marksOfMethods();
        parameters();
        numbersOfMembers();
        fieldsAlone();
        methodsAlone();
        numbersOfCallers();
        news();
        allTypesTaken();
        allMembersTaken();
        allCallersTaken();
        lastCalls();
        System.out.println(wrong == 0 ? "all bounds are as due" : wrong + " answers are not as due");
        if (wrong != 0) System.exit(1);
    }

    // ---- how a bound is looked at

    // The numbers next to a range, some far off, and some that fall into it if their upper bits are lost.
    private static int[] beyond(int low, int high) {
        int[] all = {
            low - 1, low - 2, low - 3, high + 1, high + 2, -10, 10, 12, 13, 24, 32, 33, 60, 61, 64, 120, 256, 65536,
            low + 32, high + 32, high + 64, low + 256, low + 65536, -32, -64, -256, -65536,
            Integer.MIN_VALUE, Integer.MIN_VALUE + 1, Integer.MIN_VALUE + low, Integer.MAX_VALUE - 1,
                Integer.MAX_VALUE};
        int n = 0;
        for (int i : all) if (i < low || i > high) all[n++] = i;
        return Arrays.copyOf(all, n);
    }

    private static void good(String what, House house, Numbered call, int low, int high, IntUnaryOperator want) {
        for (int n = low; n <= high; n++) due(what + " " + n, call.on(house.built(), n), want.applyAsInt(n));
    }

    private static void refused(String what, House house, Call call, long want) {
        Edits13 x = house.built();
        String before = told(x);
        due(what, call.on(x), want);
        if (told(x).equals(before)) return;
        wrong++;
        System.out.println(what + " changed something");
    }

    private static void bad(String what, House house, Numbered call, int... numbers) {
        for (int n : numbers) refused(what + " " + n, house, x -> call.on(x, n), BAD);
    }

    private static void ends(String what, House house, Numbered call, int low, int high, IntUnaryOperator want) {
        good(what, house, call, low, high, want);
        bad(what, house, call, beyond(low, high));
    }

    // As ends(), where NONE is taken too.
    private static void endsOrNone(String what, House house, Numbered call, int low, int high, IntUnaryOperator want) {
        good(what, house, call, low, high, want);
        good(what, house, call, NO, NO, want);
        for (int n : beyond(low, high)) if (n != NO) bad(what, house, call, n);
    }

    private static String told(Edits13 x) {
        StringBuilder s = new StringBuilder();
        for (int what = 0; what < 4; what++) s.append(x.count(what)).append(' ');
        for (int t = 0; t < x.count(0) && t < 3; t++) {
            for (int what = 0; what < 7; what++) s.append(x.told(t, what)).append(' ');
        }
        return s.append(x.digest()).append(' ').append(x.asked()).toString();
    }

    // ---- houses

    private static Edits13 types(int classes, int faces) {
        Edits13 x = new Edits13();
        for (int t = 0; t < classes; t++) x.type(false, NO, 0);
        for (int t = 0; t < faces; t++) x.type(true, NO, 0);
        return x;
    }

    private static Edits13 faceFirst(int classes) {
        Edits13 x = types(0, 1);
        for (int t = 0; t < classes; t++) x.type(false, NO, 0);
        return x;
    }

    // Twelve types, each with a field, a static method that takes its own type, and one that takes none.
    private static Edits13 peopled() {
        Edits13 x = types(12, 0);
        for (int t = 0; t < 12; t++) {
            x.field(t, 0, 4, 1, t);
            x.method(t, 0, t, NO, 1, t);
            x.method(t, 1, NO, NO, 0, t);
        }
        return x;
    }

    private static Edits13 sixtyFields() {
        Edits13 x = types(12, 0);
        for (int m = 0; m < 60; m++) x.field(m / 6, m % 6, 4, 0, m);
        return x;
    }

    private static Edits13 sixtyMethods() {
        Edits13 x = types(12, 0);
        for (int m = 0; m < 60; m++) x.method(m / 6, m % 6, NO, NO, 0, m);
        return x;
    }

    private static Edits13 manyCallers() {
        Edits13 x = types(12, 0);
        for (int c = 0; c < 24; c++) x.make(c % 12);
        return x;
    }

    private static Edits13 fewCallers() {
        Edits13 x = types(2, 1);
        for (int c = 0; c < 5; c++) x.make(0);
        return x;
    }

    // ---- the bounds

    private static void nothingYet() {
        House empty = Edits13::new;
        due("1 types", empty.built().count(0), 0);
        due("1 members", empty.built().count(1), 0);
        due("1 callers", empty.built().count(2), 0);
        due("1 edits", empty.built().count(3), 0);
        due("1 asked", empty.built().asked(), 0);
        due("1 digest", empty.built().digest(), 527);
        refused("14 undo of nothing", empty, x -> x.undo(), NO);
        bad("2 above", empty, (x, n) -> x.type(false, n, 0), 0, -1, -3, 11);
        bad("3 above", empty, (x, n) -> x.above(n, NO), 0, -1, NO, 11);
        bad("3 above itself", empty, (x, n) -> x.above(n, n), 0, -1, NO, 11);
        bad("4 face", empty, (x, n) -> x.face(n, n), 0, -1, NO, 11);
        bad("5 unface", empty, (x, n) -> x.unface(n, 0), 0, -1, NO, 11);
        bad("6 marks", empty, (x, n) -> x.marks(n, 0), 0, -1, NO, 11);
        bad("7 field", empty, (x, n) -> x.field(n, 0, 0, 1, 0), 0, -1, NO, 11);
        bad("8 method", empty, (x, n) -> x.method(n, 0, NO, NO, 0, 0), 0, -1, NO, 11);
        bad("9 drop", empty, (x, n) -> x.drop(n), 0, -1, NO, 59);
        bad("10 mark", empty, (x, n) -> x.mark(n, 0), 0, -1, NO, 59);
        bad("11 set", empty, (x, n) -> x.set(n, 0), 0, -1, NO, 59);
        bad("12 retype", empty, (x, n) -> x.retype(n, 0, 0), 0, -1, NO, 59);
        bad("13 move", empty, (x, n) -> x.move(n, 0), 0, -1, NO, 59);
        bad("15 get", empty, (x, n) -> x.get(n, 0), 0, -1, NO, 11);
        bad("16 call", empty, (x, n) -> x.call(n, 0, NO, NO), 0, -1, NO, 11);
        bad("17 make", empty, (x, n) -> x.make(n), 0, -1, NO, 11);
        bad("18 meet", empty, (x, n) -> x.meet(n, 0), 0, -1, NO, 23);
        bad("20 anew", empty, (x, n) -> x.anew(n, 0), 0, -1, NO, 23);
        bad("21 culprit", empty, (x, n) -> x.culprit(n, 0), 0, -1, NO, 23);
        bad("22 caller", empty, (x, n) -> x.caller(n, 0), 0, -1, NO, 23);
        bad("23 told", empty, (x, n) -> x.told(n, 0), 0, -1, NO, 11);
        bad("24 below", empty, (x, n) -> x.below(n, n), 0, -1, NO, 11);
        bad("25 member", empty, (x, n) -> x.member(n, 0), 0, -1, NO, 59);
        bad("26 selected", empty, (x, n) -> x.selected(0, n), 0, -1, NO, 59);
    }

    // Calls that take a CLASS or a FACE.
    private static void numbersOfTypes() {
        for (int classes = 0; classes <= 12; classes += 3) {
            int c = classes;
            House twelve = () -> types(c, 12 - c);
            House four = () -> types(c / 3, 4 - c / 3);
            for (int last = 3; last <= 11; last += 8) {
                House house = last == 11 ? twelve : four;
                ends("6 marks", house, (x, n) -> x.marks(n, 3), 0, last, n -> 0);
                ends("7 field", house, (x, n) -> x.field(n, 0, 0, 1, 0), 0, last, n -> 0);
                ends("8 method", house, (x, n) -> x.method(n, 0, NO, NO, 0, 0), 0, last, n -> 0);
                ends("23 told", house, (x, n) -> x.told(n, 1), 0, last, n -> NO);
                ends("24 below", house, (x, n) -> x.below(n, 0), 0, last, n -> n == 0 ? 1 : 0);
                ends("24 other", house, (x, n) -> x.below(0, n), 0, last, n -> n == 0 ? 1 : 0);
            }
        }
        House peopled = BoundsTest::peopled;
        ends("15 get", peopled, (x, n) -> x.get(n, 0), 0, 11, n -> 0);
        ends("16 call", peopled, (x, n) -> x.call(n, 1, NO, NO), 0, 11, n -> 0);
        // The one that has it is the first number that is not good.
        ends("13 move, type", () -> moving(11), (x, n) -> x.move(0, n), 0, 10, n -> 1);
        ends("13 move, type", () -> moving(3), (x, n) -> x.move(0, n), 0, 2, n -> 1);
    }

    // A house with one METHOD, which the last TYPE has.
    private static Edits13 moving(int last) {
        Edits13 x = types(last, 1);
        x.method(last, 0, NO, NO, 0, 0);
        return x;
    }

    private static void numbersOfClasses() {
        House eleven = () -> types(11, 0);
        endsOrNone("2 above a class", eleven, (x, n) -> x.type(false, n, 0), 0, 10, n -> 11);
        endsOrNone("2 above a class", () -> types(2, 3), (x, n) -> x.type(false, n, 0), 0, 1, n -> 5);
        House twelve = () -> types(12, 0);
        ends("3 above of", twelve, (x, n) -> x.above(n, NO), 0, 11, n -> 1);
        ends("3 above of", () -> types(3, 9), (x, n) -> x.above(n, NO), 0, 2, n -> 1);
        good("3 above", twelve, (x, n) -> x.above(0, n), 1, 11, n -> 1);
        good("3 above none", twelve, (x, n) -> x.above(0, n), NO, NO, n -> 1);
        for (int n : beyond(0, 11)) if (n != NO) bad("3 above", twelve, (x, k) -> x.above(0, k), n);
        bad("3 above a face", () -> types(3, 9), (x, n) -> x.above(0, n), 3, 4, 11, 12, -1, -3);
        House peopled = BoundsTest::peopled;
        ends("26 selected", peopled, (x, n) -> x.selected(n, 2), 0, 11, n -> 3 * n + 2);
        House faced = () -> {
            Edits13 x = types(3, 3);
            x.method(5, 0, NO, NO, 0, 0);
            return x;
        };
        ends("26 selected, no face", faced, (x, n) -> x.selected(n, 0), 0, 2, n -> NO);
        ends("18 r", BoundsTest::manyCallers, (x, n) -> x.meet(0, n), 0, 11, n -> 0);
        ends("20 r", BoundsTest::manyCallers, (x, n) -> x.anew(0, n), 0, 11, n -> 0);
        ends("21 r", BoundsTest::manyCallers, (x, n) -> x.culprit(0, n), 0, 11, n -> 0);
        ends("18 r, no face", BoundsTest::fewCallers, (x, n) -> x.meet(0, n), 0, 1, n -> 0);
        ends("20 r, no face", BoundsTest::fewCallers, (x, n) -> x.anew(0, n), 0, 1, n -> 0);
        ends("21 r, no face", BoundsTest::fewCallers, (x, n) -> x.culprit(0, n), 0, 1, n -> 0);
    }

    private static void numbersOfFaces() {
        House oneClass = () -> types(1, 11);
        ends("4 face", oneClass, (x, n) -> x.face(0, n), 1, 11, n -> 1);
        ends("4 face", () -> types(4, 3), (x, n) -> x.face(0, n), 4, 6, n -> 1);
        good("4 face of a face", () -> types(0, 12), (x, n) -> x.face(n, 0), 1, 11, n -> 1);
        bad("4 face of", () -> types(0, 12), (x, n) -> x.face(n, 0), beyond(0, 11));
        good("4 face of a class", () -> faceFirst(11), (x, n) -> x.face(n, 0), 1, 11, n -> 1);
        bad("4 face of", () -> faceFirst(3), (x, n) -> x.face(n, 0), beyond(0, 3));
        House allFaced = () -> {
            Edits13 x = faceFirst(11);
            for (int t = 1; t < 12; t++) x.face(t, 0);
            return x;
        };
        ends("5 unface of", allFaced, (x, n) -> x.unface(n, 0), 1, 11, n -> 0);
        for (int faces = 0; faces <= 3; faces++) {
            int f = faces;
            House some = () -> {
                Edits13 x = types(2, 4);
                for (int i = 0; i < f; i++) x.face(0, 2 + i);
                // A type beside it has faces at the places where this one has none.
                for (int i = 0; i < 3; i++) x.face(1, 5 - i);
                return x;
            };
            ends("5 face of " + f, some, (x, n) -> x.unface(0, n), 0, f - 1, n -> f - 1);
            ends("23 what", some, (x, n) -> x.told(0, n), 0, 6,
                n -> n < 3 ? (n == 1 ? NO : 0) : n == 3 ? f : n - 4 < f ? n - 2 : NO);
        }
    }

    private static void namesAndKinds() {
        House one = () -> types(1, 0);
        ends("7 name", one, (x, n) -> x.field(0, n, 0, 0, 0), 0, 9, n -> 0);
        ends("8 name", one, (x, n) -> x.method(0, n, NO, NO, 0, 0), 0, 9, n -> 0);
        ends("7 kind", one, (x, n) -> x.field(0, 0, n, 0, 0), 0, 7, n -> 0);
        House named = () -> {
            Edits13 x = types(1, 0);
            for (int n = 0; n < 10; n++) {
                x.field(0, n, 4, 0, n);
                x.method(0, n, NO, NO, 0, n);
            }
            return x;
        };
        ends("15 name", named, (x, n) -> x.get(0, n), 0, 9, n -> 0);
        ends("16 name", named, (x, n) -> x.call(0, n, NO, NO), 0, 9, n -> 0);
        ends("12 kind", named, (x, n) -> x.retype(0, n, 0), 0, 7, n -> 1);
    }

    private static void marksOfTypes() {
        House some = () -> types(1, 1);
        ends("2 marks of a class", some, (x, n) -> x.type(false, NO, n), 0, 3, n -> 2);
        ends("2 marks of a face", some, (x, n) -> x.type(true, NO, n), 0, 3, n -> 2);
        ends("6 marks of a class", some, (x, n) -> x.marks(0, n), 0, 3, n -> 0);
        ends("6 marks of a face", some, (x, n) -> x.marks(1, n), 0, 3, n -> 0);
        good("6 what they were", some, (x, n) -> x.marks(0, n) + x.marks(0, 0), 0, 3, n -> n);
        endsOrNone("2 above a class", some, (x, n) -> x.type(false, n, 0), 0, 0, n -> 2);
        bad("2 above a face", some, (x, n) -> x.type(true, n, 0), 0, 1, 2, -1, -3, Integer.MAX_VALUE,
            Integer.MIN_VALUE);
        good("2 above a face", some, (x, n) -> x.type(true, n, 0), NO, NO, n -> 2);
    }

    private static void marksOfFields() {
        House some = () -> {
            Edits13 x = types(1, 1);
            x.field(0, 1, 4, 7, 0);
            x.field(1, 1, 4, 7, 0);
            return x;
        };
        ends("7 marks", some, (x, n) -> x.field(0, 0, 4, n, 0), 0, 7, n -> 2);
        ends("10 marks of a field", some, (x, n) -> x.mark(0, n), 0, 7, n -> 7);
        bad("7 marks of a face's field", some, (x, n) -> x.field(1, 0, 4, n, 0), beyond(0, 7));
        bad("10 marks of a face's field", some, (x, n) -> x.mark(1, n), beyond(0, 7));
        for (int marks = 0; marks < 8; marks += 2) {
            bad("7 not static in a face", some, (x, n) -> x.field(1, 0, 4, n, 0), marks);
            bad("10 not static in a face", some, (x, n) -> x.mark(1, n), marks);
            good("7 static in a face", some, (x, n) -> x.field(1, 0, 4, n, 0), marks + 1, marks + 1, n -> 2);
            good("10 static in a face", some, (x, n) -> x.mark(1, n), marks + 1, marks + 1, n -> 7);
        }
    }

    private static void marksOfMethods() {
        House some = () -> {
            Edits13 x = types(1, 1);
            x.method(0, 1, NO, NO, 5, 0);
            x.method(1, 1, NO, NO, 8, 0);
            return x;
        };
        for (int type = 0; type < 2; type++) {
            int t = type;
            ends("8 marks", some, (x, n) -> x.method(t, 0, NO, NO, n, 0), 0, 8, n -> 2);
            ends("10 marks of a method", some, (x, n) -> x.mark(t, n), 0, 8, n -> t == 0 ? 5 : 8);
            bad("8 marks that do not go together", some, (x, n) -> x.method(t, 0, NO, NO, n, 0),
                9, 10, 11, 12, 13, 14, 15, 16);
            bad("10 marks that do not go together", some, (x, n) -> x.mark(t, n), 9, 10, 11, 12, 13, 14, 15, 16);
        }
    }

    private static void parameters() {
        House twelve = () -> types(6, 6);
        endsOrNone("8 a", twelve, (x, n) -> x.method(0, 0, n, NO, 0, 0), 0, 11, n -> 0);
        ends("8 a with b", twelve, (x, n) -> x.method(0, 0, n, 11, 0, 0), 0, 11, n -> 0);
        endsOrNone("8 b", twelve, (x, n) -> x.method(0, 0, 11, n, 0, 0), 0, 11, n -> 0);
        bad("8 a is none, b is not", twelve, (x, n) -> x.method(0, 0, NO, n, 0, 0), 0, 1, 11, 12, -1, -3);
        House three = () -> types(2, 1);
        endsOrNone("8 a", three, (x, n) -> x.method(0, 0, n, NO, 0, 0), 0, 2, n -> 0);
        endsOrNone("8 b", three, (x, n) -> x.method(0, 0, 0, n, 0, 0), 0, 2, n -> 0);
        House taking = () -> {
            Edits13 x = types(12, 0);
            x.method(0, 0, NO, NO, 0, 0);
            for (int t = 0; t < 12; t++) {
                x.method(0, 0, t, NO, 0, 0);
                x.method(0, 0, t, t, 0, 0);
                x.method(0, 0, 11, t, 0, 0);
                x.method(0, 0, t, 11, 0, 0);
            }
            return x;
        };
        endsOrNone("16 a", taking, (x, n) -> x.call(0, 0, n, NO), 0, 11, n -> 0);
        ends("16 a with b", taking, (x, n) -> x.call(0, 0, n, 11), 0, 11, n -> 0);
        endsOrNone("16 b", taking, (x, n) -> x.call(0, 0, 11, n), 0, 11, n -> 0);
        bad("16 a is none, b is not", taking, (x, n) -> x.call(0, 0, NO, n), 0, 1, 11, 12, -1, -3);
    }

    private static void numbersOfMembers() {
        for (int sort = 0; sort < 2; sort++) {
            House sixty = sort == 0 ? BoundsTest::sixtyFields : BoundsTest::sixtyMethods;
            ends("9 drop", sixty, (x, n) -> x.drop(n), 0, 59, n -> 1);
            ends("10 mark", sixty, (x, n) -> x.mark(n, 2), 0, 59, n -> 0);
            ends("11 set", sixty, (x, n) -> x.set(n, 2), 0, 59, n -> 1);
            ends("13 move", sixty, (x, n) -> x.move(n, 11), 0, 59, n -> 1);
            ends("25 member", sixty, (x, n) -> x.member(n, 1), 0, 59, n -> n / 6);
            ends("25 what", sixty, (x, n) -> x.member(59, n), 0, 5, n -> what59(sixty.built().member(59, 0), n));
        }
        House three = () -> {
            Edits13 x = types(2, 0);
            for (int n = 0; n < 4; n++) x.field(0, n, 4, 0, 0);
            x.drop(1);
            return x;
        };
        for (int n : new int[] {-1, 1, 4, 5, 59}) {
            bad("9 drop", three, (x, k) -> x.drop(k), n);
            bad("10 mark", three, (x, k) -> x.mark(k, 0), n);
            bad("11 set", three, (x, k) -> x.set(k, 0), n);
            bad("12 retype", three, (x, k) -> x.retype(k, 0, 0), n);
            bad("13 move", three, (x, k) -> x.move(k, 1), n);
            bad("25 member", three, (x, k) -> x.member(k, 0), n);
            bad("26 selected", three, (x, k) -> x.selected(0, k), n);
        }
        due("7 the last number of all", sixtyFields().count(1), 60);
        due("8 the last number of all", sixtyMethods().count(1), 60);
    }

    private static int what59(int method, int what) {
        return new int[] {method, 9, 5, 0, method == 1 ? NO : 4, NO}[what];
    }

    // Calls that take a FIELD refuse a METHOD.
    private static void fieldsAlone() {
        ends("12 retype", BoundsTest::sixtyFields, (x, n) -> x.retype(n, 5, 1), 0, 59, n -> 1);
        bad("12 a method", BoundsTest::sixtyMethods, (x, n) -> x.retype(n, 5, 1), 0, 1, 58, 59, 60, -1);
    }

    // Calls that take a METHOD refuse a FIELD.
    private static void methodsAlone() {
        ends("26 selected", BoundsTest::sixtyMethods, (x, n) -> x.selected(9, n), 0, 59, n -> n % 6 + 54);
        bad("26 a field", BoundsTest::sixtyFields, (x, n) -> x.selected(0, n), 0, 1, 58, 59, 60, -1);
    }

    private static void numbersOfCallers() {
        House many = BoundsTest::manyCallers;
        ends("18 caller", many, (x, n) -> x.meet(n, 0) + x.asked(), 0, 23, n -> n % 12);
        ends("20 caller", many, (x, n) -> x.anew(n, 0) + x.asked(), 0, 23, n -> n % 12);
        ends("21 caller", many, (x, n) -> x.culprit(n, 0), 0, 23, n -> 0);
        ends("22 caller", many, (x, n) -> x.caller(n, 1), 0, 23, n -> n % 12);
        ends("22 what", many, (x, n) -> x.caller(23, n), 0, 6, n -> new int[] {2, 11, NO, NO, NO, 0, 12}[n]);
        House few = BoundsTest::fewCallers;
        ends("18 caller", few, (x, n) -> x.meet(n, 0), 0, 4, n -> 0);
        ends("20 caller", few, (x, n) -> x.anew(n, 0), 0, 4, n -> 0);
        ends("21 caller", few, (x, n) -> x.culprit(n, 0), 0, 4, n -> 0);
        ends("22 caller", few, (x, n) -> x.caller(n, 0), 0, 4, n -> 2);
        ends("27 count", few, (x, n) -> x.count(n), 0, 3, n -> new int[] {3, 0, 5, 3}[n]);
    }

    private static void news() {
        ends("17 make", () -> types(12, 0), (x, n) -> x.make(n), 0, 11, n -> 0);
        ends("17 make", () -> types(3, 0), (x, n) -> x.make(n), 0, 2, n -> 0);
        good("17 a face", () -> types(1, 11), (x, n) -> x.make(n), 1, 11, n -> -13);
    }

    private static void allTypesTaken() {
        Edits13 x = new Edits13();
        for (int t = 0; t < 12; t++) due("2 the number", x.type(t % 2 == 1, NO, 0), t);
        due("2 a thirteenth class", x.type(false, NO, 0), FULL);
        due("2 a thirteenth class below another", x.type(false, 10, 0), FULL);
        due("2 a thirteenth face", x.type(true, NO, 0), FULL);
        due("2 they are twelve", x.count(0), 12);
        due("2 of as many edits", x.count(3), 12);
        due("14 one is taken back", x.undo(), 11);
        due("2 there is room for one", x.type(true, NO, 0), 11);
        due("2 and for no more", x.type(true, NO, 0), FULL);
    }

    private static void allMembersTaken() {
        Edits13 x = types(2, 0);
        for (int n = 0; n < 10; n++) {
            due("7 the number", x.field(0, n, 0, 0, 0), 6 * n);
            due("8 the number", x.method(0, n, NO, NO, 0, 0), 6 * n + 1);
            due("8 the number", x.method(0, n, 0, NO, 0, 0), 6 * n + 2);
            due("8 the number", x.method(0, n, 1, NO, 0, 0), 6 * n + 3);
            due("8 the number", x.method(0, n, 0, 1, 0, 0), 6 * n + 4);
            due("8 the number", x.method(0, n, 1, 0, 0, 0), 6 * n + 5);
        }
        due("7 a field too many", x.field(1, 0, 0, 0, 0), FULL);
        due("8 a method too many", x.method(1, 0, 0, 0, 0, 0), FULL);
        due("7 they are sixty", x.count(1), 60);
        due("9 the last is dropped", x.drop(59), 1);
        due("9 one inside is dropped", x.drop(30), 1);
        due("9 the first is dropped", x.drop(0), 1);
        due("8 the least free number", x.method(1, 0, 0, 0, 0, 0), 0);
        due("7 the least free number", x.field(1, 0, 0, 0, 0), 30);
        due("8 the least free number", x.method(1, 1, 0, 0, 0, 0), 59);
        due("8 and no more", x.method(1, 2, 0, 0, 0, 0), FULL);
        due("14 one is taken back", x.undo(), 67);
        due("7 there is room for one", x.field(1, 9, 0, 0, 0), 59);
        due("7 and for no more", x.field(1, 8, 0, 0, 0), FULL);
        due("14 a drop is taken back", x.undo() + x.undo() + x.undo() + x.undo() + x.undo(), 67 + 66 + 65 + 64 + 63);
        due("7 its number is free still", x.field(1, 8, 0, 0, 0), 59);
        due("7 the others are not", x.field(1, 7, 0, 0, 0), FULL);
    }

    private static void allCallersTaken() {
        Edits13 x = types(1, 0);
        x.field(0, 0, 4, 0, 7);
        x.method(0, 0, NO, NO, 0, 8);
        for (int c = 0; c < 24; c++) {
            due("15 to 17 the number", c % 3 == 0 ? x.get(0, 0) : c % 3 == 1 ? x.call(0, 0, NO, NO) : x.make(0), c);
        }
        due("15 one too many", x.get(0, 0), FULL);
        due("16 one too many", x.call(0, 0, NO, NO), FULL);
        due("17 one too many", x.make(0), FULL);
        due("17 they are 24", x.count(2), 24);
        for (int edits = 2; edits >= 0; edits--) due("14 undo", x.undo(), edits);
        due("14 callers stay", x.count(2), 24);
        x.type(false, NO, 0);
        due("17 and take their places still", x.make(0), FULL);
        due("22 the last of them", x.caller(23, 0), 2);
        due("18 the last of them", x.meet(23, 0), 0);
        due("18 the one ahead of it", x.meet(22, 0), -33);
    }

    // The 512th call is answered as the first ones are; later ones may answer anything, but do answer.
    private static void lastCalls() {
        Edits13 x = types(1, 0);
        x.field(0, 0, 5, 1, 0);
        x.get(0, 0);
        for (int i = 0; i < 84; i++) {
            due("11 set", x.set(0, i), 1);
            due("18 meet", x.meet(0, 0), 0);
            due("19 asked", x.asked(), i);
            due("21 culprit", x.culprit(0, 0), i == 0 ? 0 : 3);
            due("14 undo", x.undo(), 2);
            due("27 edits", x.count(3), 2);
        }
        for (int v = 1; v <= 4; v++) due("11 set", x.set(0, v), 1);
        due("28 the 512th call", x.digest(), digestOfOne(4, 6));
        for (int i = 0; i < 512; i++) {
            x.type(i % 2 == 0, NO, 0);
            x.method(i % 12, i % 10, NO, NO, 0, i);
            x.call(i % 12, i % 10, NO, NO);
            x.culprit(i % 24, 0);
            x.anew(i % 24, 0);
            x.meet(i % 24, 0);
        }
    }

    // The digest of a house with one class that has one static field of longs.
    private static long digestOfOne(long value, int edits) {
        long h = 17;
        for (long v : new long[] {0, NO, 0, 0, NO, NO, NO, 0, 0, 0, 0, 1, 5, NO, value, edits}) h = 31 * h + v;
        return h;
    }
}
