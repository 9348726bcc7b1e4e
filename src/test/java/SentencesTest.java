// The sentences of the terms, at their edges: failures that hold all at once, long ways from type to type,
// rounds, the last edit, edits taken back, numbers given again, and the first and last culprit.
public final class SentencesTest {
    private static final int NO = Edits13.NONE, BAD = Edits13.BAD, FULL = Edits13.FULL, RING = Edits13.RING;
    private static final int NO_SUCH = -11, MANY = -12, NOT_MADE = -13;
    private static final int BARRED = -31, BROKEN = -32, LOST = -33, CLOSED = -34, CHANGED = -35;
    private static final int UNLIKE = -36, CAST = -37, EMPTY = -38, HOLLOW = -39;
    private static int wrong = 0;

    private interface Call {
        long on(Edits13 x);
    }

    private static void due(String what, long got, long want) {
        if (got == want) return;
        wrong++;
        System.out.println(what + " answered " + got + ", due is " + want);
    }

    private static void dueMet(String what, Edits13 x, int caller, int r, long want) {
        due(what, x.meet(caller, r), 0);
        due(what + ", asked", x.asked(), want);
    }

    public static void main(String[] args) {
        longWaysUp();
        longWaysAside();
        rounds();
        threeFaces();
        like();
        moved();
        passedOver();
        fits();
        closest();
        chosen();
        getLadder();
        staticGetLadder();
        callLadder();
        staticCallLadder();
        newLadder();
        keptLadder();
        changedFace();
        readUpwards();
        readAside();
        readLike();
        lookedAtAlways();
        lastEdit();
        takenBack();
        numbersAgain();
        lostAheadOfAll();
        keptForEver();
        askedLast();
        anewMade();
        culpritEnds();
        culpritKinds();
        culpritOtherWay();
        System.out.println(wrong == 0 ? "all sentences hold" : wrong + " answers are not as due");
        if (wrong != 0) System.exit(1);
    }

    private static Edits13 types(int classes, int faces) {
        Edits13 x = new Edits13();
        for (int t = 0; t < classes; t++) x.type(false, NO, 0);
        for (int t = 0; t < faces; t++) x.type(true, NO, 0);
        return x;
    }

    // Twelve classes, each above the one before it.
    private static Edits13 tower() {
        Edits13 x = types(12, 0);
        for (int t = 0; t < 11; t++) x.above(t, t + 1);
        return x;
    }

    // A class that has the first of eleven faces, each of which has the next.
    private static Edits13 street() {
        Edits13 x = types(1, 11);
        for (int t = 0; t < 11; t++) x.face(t, t + 1);
        return x;
    }

    // ---- 1, 2: types, members, to look and to select

    private static void longWaysUp() {
        Edits13 x = tower();
        for (int t = 0; t < 12; t++) {
            due("1 below what is above, " + t, x.below(0, t), 1);
            due("1 not above what is below, " + t, x.below(11, t), t == 11 ? 1 : 0);
        }
        x.field(11, 0, 4, 0, 7);
        x.method(11, 0, 0, 11, 0, 8);
        due("2 a field, eleven up", x.get(0, 0), 0);
        due("2 a method, eleven up", x.call(0, 0, 0, 0), 1);
        dueMet("4 a field, eleven up", x, 0, 0, 7);
        dueMet("4 a method, eleven up", x, 1, 0, 8);
        due("4 r is what is above t", x.meet(0, 11), UNLIKE);
        due("26 eleven up", x.selected(0, 1), 1);
        x.above(5, NO);
        due("1 cut in the middle", x.below(0, 11), 0);
        due("1 up to there", x.below(0, 5), 1);
        due("1 from there", x.below(6, 11), 1);
        due("4 lost", x.meet(0, 0), LOST);
        due("26 nothing", x.selected(0, 1), NO);
    }

    private static void longWaysAside() {
        Edits13 x = street();
        for (int t = 0; t < 12; t++) {
            due("1 below its faces, " + t, x.below(0, t), 1);
            due("1 not the other way, " + t, x.below(11, t), t == 11 ? 1 : 0);
        }
        x.field(11, 0, 4, 1, 7);
        x.method(11, 0, 0, 11, 0, 8);
        due("2 a field, eleven faces off", x.get(0, 0), 0);
        due("2 a method, eleven faces off", x.call(0, 0, 0, 0), 1);
        due("2 a method of a face, from a face", x.call(1, 0, 0, 0), 2);
        dueMet("4 a field, eleven faces off", x, 0, 0, 7);
        dueMet("4 a method, eleven faces off", x, 1, 0, 8);
        dueMet("4 a method of a face", x, 2, 0, 8);
        due("26 eleven faces off", x.selected(0, 1), 1);
        x.unface(5, 0);
        due("1 cut in the middle", x.below(0, 11), 0);
        due("1 up to there", x.below(0, 5), 1);
        due("1 from there", x.below(6, 11), 1);
        due("4 lost", x.meet(1, 0), LOST);
        due("26 nothing", x.selected(0, 1), NO);
    }

    private static void rounds() {
        Edits13 x = tower();
        due("3 a round of twelve", x.above(11, 0), RING);
        due("3 a round of two", x.above(11, 10), RING);
        due("3 itself", x.above(11, 11), RING);
        due("3 none", x.above(0, NO), 1);
        due("3 the same twelve, cut once", x.above(11, 0), 1);
        due("3 turned", x.below(1, 0), 1);
        due("3 cannot be closed", x.above(0, 1), RING);
        due("3 a way up that is given up is no round", x.above(3, 5), 1);
        Edits13 y = street();
        due("4 a round of eleven", y.face(11, 1), RING);
        due("4 a round of two", y.face(11, 10), RING);
        due("4 itself", y.face(11, 11), RING);
        due("4 a face of what it is below already", y.face(1, 11), 2);
        due("5 no more", y.unface(1, 0), 1);
        due("4 the rest is not below it now", y.face(2, 1), 2);
        due("4 a face that it is below still", y.face(11, 1), RING);
    }

    private static void threeFaces() {
        Edits13 x = types(1, 4);
        due("4 one", x.face(0, 4), 1);
        due("4 two", x.face(0, 2), 2);
        due("4 three", x.face(0, 3), 3);
        due("4 a fourth", x.face(0, 1), BAD);
        due("5 the first goes", x.unface(0, 0), 2);
        due("4 as the last one", x.face(0, 1), 3);
        int[] order = {2, 3, 1};
        for (int i = 0; i < 3; i++) due("4 in order", x.told(0, 4 + i), order[i]);
        due("5 the last goes", x.unface(0, 2), 2);
        due("5 that place is empty", x.unface(0, 2), BAD);
        due("23 that place is empty", x.told(0, 6), NO);
        due("4 one that went may come again", x.face(0, 4), 3);
        for (int left = 2; left >= 0; left--) due("5 " + left + " are left", x.unface(0, 0), left);
        due("5 none is left", x.unface(0, 0), BAD);
        for (int f = 1; f < 5; f++) due("5 below none of them", x.below(0, f), 0);
    }

    private static void like() {
        Edits13 x = types(2, 0);
        int[][] parameters = {{NO, NO}, {0, NO}, {1, NO}, {0, 0}, {0, 1}, {1, 0}, {1, 1}};
        for (int i = 0; i < 7; i++) {
            due("1 no one is like it", x.method(0, 3, parameters[i][0], parameters[i][1], 0, 0), i);
        }
        for (int marks = 0; marks < 9; marks++) {
            for (int[] p : parameters) due("1 like, whatever the marks", x.method(0, 3, p[0], p[1], marks, 9), BAD);
        }
        due("1 another name", x.method(0, 4, NO, NO, 0, 0), 7);
        due("1 another type", x.method(1, 3, NO, NO, 0, 0), 8);
        due("1 a field is not like a method", x.field(0, 3, 4, 0, 0), 9);
        for (int kind = 0; kind < 8; kind++) due("1 like, whatever the kind", x.field(0, 3, kind, kind, 0), BAD);
        due("1 a field of another name", x.field(0, 2, 4, 0, 0), 10);
        due("1 a field of another type", x.field(1, 3, 4, 0, 0), 11);
        x.drop(9);
        due("1 a dropped one is like none", x.field(0, 3, 4, 0, 0), 9);
        x.move(8, 0);
        due("1 a refused move leaves it there", x.method(1, 3, NO, NO, 0, 0), BAD);
    }

    private static void moved() {
        Edits13 x = types(2, 1);
        x.field(0, 0, 4, 1, 7);
        x.method(0, 0, NO, NO, 0, 8);
        x.get(0, 0);
        x.call(0, 0, NO, NO);
        due("13 to its own", x.move(0, 0), BAD);
        due("13 a static field to a face", x.move(0, 2), 1);
        due("13 to its own now", x.move(0, 2), BAD);
        due("10 static it must stay there", x.mark(0, 0), BAD);
        due("4 lost where it was", x.meet(0, 0), LOST);
        due("7 its place is empty", x.field(0, 0, 5, 0, 9), 2);
        due("13 and taken by one like it", x.move(0, 0), BAD);
        due("13 one that is not static", x.move(2, 2), BAD);
        due("13 a static one, beside one like it", x.mark(2, 1) + x.move(2, 2), BAD);
        due("13 to a class it may go", x.move(0, 1), 1);
        due("10 where it need not be static", x.mark(0, 0), 1);
        due("13 back it may not", x.move(0, 2), BAD);
        due("13 a method may go to a face", x.move(1, 2), 1);
        due("4 lost where it was", x.meet(1, 0), LOST);
        x.face(0, 2);
        dueMet("4 found in the face", x, 1, 0, 8);
        due("25 number and name stay", x.member(1, 2), 0);
        due("25 its type is another", x.member(1, 1), 2);
    }

    private static void passedOver() {
        Edits13 x = types(2, 2);
        x.above(0, 1);
        x.face(0, 2);
        x.face(0, 3);
        for (int t = 0; t < 4; t++) x.field(t, 0, 4, 5, 10 + t);
        due("3 all are hidden", x.get(0, 0), NO_SUCH);
        x.mark(1, 1);
        due("3 all but the last are passed over", x.get(0, 0), 0);
        due("4 but the first of them is found", x.meet(0, 0), CLOSED);
        x.drop(0);
        due("4 or the next", x.meet(0, 0), CLOSED);
        x.drop(2);
        due("4 or the one behind that", x.meet(0, 0), CLOSED);
        x.drop(3);
        dueMet("4 none is ahead", x, 0, 0, 11);
        Edits13 y = types(2, 0);
        y.above(0, 1);
        y.field(0, 0, 4, 7, 1);
        y.field(1, 0, 5, 3, 2);
        y.get(0, 0);
        due("3 the one behind it is kept", y.caller(0, 5), 1);
        dueMet("4 kept", y, 0, 0, 2);
    }

    private static void fits() {
        Edits13 x = types(3, 1);
        x.above(0, 1);
        x.face(0, 3);
        x.method(0, 0, 2, NO, 4, 5);
        due("3 a hidden one does not fit", x.call(0, 0, 2, NO), NO_SUCH);
        x.method(1, 1, 2, NO, 0, 6);
        x.method(0, 1, 2, NO, 0, 7);
        x.method(3, 1, 2, NO, 8, 8);
        due("3 like ones are one", x.call(0, 1, 2, NO), 0);
        dueMet("3 and it is the first", x, 0, 0, 7);
        x.method(1, 2, 2, 2, 8, 9);
        due("3 an abstract one fits", x.call(0, 2, 2, 2), 1);
        due("4 and is empty", x.meet(1, 0), EMPTY);
        due("3 one argument above", x.call(0, 2, 2, 1), NO_SUCH);
        due("3 the other argument above", x.call(0, 2, 1, 2), NO_SUCH);
        due("3 one argument too few", x.call(0, 2, 2, NO), NO_SUCH);
        due("3 none at all", x.call(0, 2, NO, NO), NO_SUCH);
        due("3 not found from above", x.call(2, 1, 2, NO), NO_SUCH);
        x.method(0, 3, NO, NO, 1, 9);
        due("3 one without parameters, with an argument", x.call(0, 3, 0, NO), NO_SUCH);
        due("3 one without parameters", x.call(0, 3, NO, NO), 2);
        dueMet("3 a static one", x, 2, 2, 9);
    }

    // 0 is below 1 and 2 as 3 is below 4: classes 0, 1 and faces 2, 3, 4.
    private static void closest() {
        Edits13 x = types(2, 3);
        x.above(0, 1);
        x.face(0, 2);
        x.face(3, 4);
        x.method(0, 0, 1, NO, 0, 10);
        x.method(0, 0, 2, NO, 0, 11);
        due("3 neither is below the other", x.call(0, 0, 0, NO), MANY);
        due("3 only one fits", x.call(0, 0, 1, NO), 0);
        due("3 only the other fits", x.call(0, 0, 2, NO), 1);
        x.method(0, 0, 0, NO, 0, 12);
        due("3 one is below both", x.call(0, 0, 0, NO), 2);
        due("3 it is that", x.caller(2, 3), 0);
        x.drop(2);
        due("3 it is dropped", x.call(0, 0, 0, NO), MANY);
        x.undo();
        x.method(1, 1, 1, 4, 0, 13);
        x.method(1, 1, 0, 4, 0, 14);
        due("3 the same in one, below in the other", x.call(0, 1, 0, 3), 3);
        due("3 it is that", x.caller(3, 3), 0);
        x.method(1, 1, 1, 3, 0, 15);
        due("3 each is below in one only", x.call(0, 1, 0, 3), MANY);
        due("3 arguments by which one fits", x.call(0, 1, 1, 3), 4);
        due("3 it is that", x.caller(4, 4), 3);
        x.mark(5, 4);
        due("3 one of the two is hidden", x.call(0, 1, 0, 3), 5);
        due("3 it is the other one", x.caller(5, 3) * 10 + x.caller(5, 4), 4);
        Edits13 y = types(1, 3);
        for (int f = 1; f < 4; f++) {
            y.face(0, f);
            y.method(0, 0, f, NO, 0, f);
        }
        due("3 three, none below each other one", y.call(0, 0, 0, NO), MANY);
        y.face(1, 2);
        due("3 below one of the two", y.call(0, 0, 0, NO), MANY);
        y.face(1, 3);
        due("3 below both of them", y.call(0, 0, 0, NO), 0);
        due("3 it is that", y.caller(0, 3), 1);
    }

    private static void chosen() {
        Edits13 x = types(1, 5);
        for (int f = 1; f < 4; f++) x.face(0, f);
        for (int f = 1; f < 6; f++) x.method(f, 0, NO, NO, 8, f);
        due("2 three, all abstract", x.selected(0, 0), NO);
        x.mark(2, 0);
        due("2 just one is not", x.selected(0, 0), 2);
        x.mark(0, 0);
        due("2 two are not, one is", x.selected(0, 1), RING);
        x.mark(1, 0);
        due("2 three are not", x.selected(0, 1), RING);
        x.face(1, 2);
        due("2 one of them is below another", x.selected(0, 1), RING);
        x.face(1, 3);
        due("2 it is below both", x.selected(0, 1), 0);
        x.mark(0, 8);
        due("2 abstract it covers both", x.selected(0, 1), NO);
        x.mark(0, 4);
        due("2 hidden it covers none", x.selected(0, 1), RING);
        x.mark(0, 1);
        due("2 static it covers none", x.selected(0, 1), RING);
        x.drop(0);
        due("2 dropped it covers none", x.selected(0, 1), RING);
        x.drop(1);
        due("2 one is left", x.selected(0, 2), 2);
        x.drop(2);
        due("2 none is left", x.selected(0, 3), NO);
        x.face(3, 4);
        due("2 one more face off, abstract", x.selected(0, 3), NO);
        x.mark(3, 2);
        due("2 one more face off", x.selected(0, 4), 3);
        x.method(0, 0, NO, NO, 8, 9);
        due("2 a class goes ahead, though abstract", x.selected(0, 4), NO);
        x.mark(0, 4);
        due("2 not if it is hidden", x.selected(0, 4), 3);
        Edits13 y = types(0, 3);
        y.type(false, NO, 0);
        for (int f = 0; f < 3; f++) {
            y.face(3, f);
            y.method(f, 0, 3, 0, 0, f);
        }
        due("2 the first face of all and the others", y.selected(3, 0), RING);
        y.face(0, 1);
        y.face(0, 2);
        due("2 the first face of all", y.selected(3, 2), 0);
    }

    // ---- 4: what is met, with all failures at once, taken away one by one from the first on

    // 1 is below 0; 3 is below 2. What is above each is final and has a final method that it has too.
    private static Edits13 allWrong() {
        Edits13 x = types(4, 0);
        x.above(1, 0);
        x.above(3, 2);
        x.method(0, 9, NO, NO, 2, 0);
        x.method(1, 9, NO, NO, 0, 0);
        x.method(2, 8, NO, NO, 2, 0);
        x.method(3, 8, NO, NO, 0, 0);
        return x;
    }

    private static void getLadder() {
        Edits13 x = allWrong();
        x.field(1, 0, 4, 0, 7);
        due("3 nothing is read when it is made", x.get(1, 0), 0);
        x.drop(4);
        x.marks(0, 2);
        x.marks(2, 2);
        due("4 barred, ahead of broken", x.meet(0, 3), BARRED);
        x.marks(0, 0);
        due("4 broken, ahead of lost", x.meet(0, 3), BROKEN);
        x.drop(1);
        due("4 lost", x.meet(0, 3), LOST);
        x.field(1, 0, 7, 5, 7);
        due("4 closed, ahead of changed", x.meet(0, 3), CLOSED);
        x.mark(1, 1);
        due("4 changed, ahead of r", x.meet(0, 3), CHANGED);
        x.mark(1, 0);
        due("4 r is barred, ahead of broken", x.meet(0, 3), BARRED);
        x.marks(2, 0);
        due("4 r is broken, ahead of unlike", x.meet(0, 3), BROKEN);
        x.drop(3);
        due("4 unlike, ahead of cast", x.meet(0, 3), UNLIKE);
        x.above(2, 1);
        due("4 cast", x.meet(0, 3), CAST);
        x.retype(1, 2, -1);
        dueMet("4 nothing is wrong", x, 0, 3, 65535);
    }

    private static void staticGetLadder() {
        Edits13 x = allWrong();
        x.field(1, 0, 4, 1, 7);
        x.get(1, 0);
        x.drop(4);
        x.marks(0, 2);
        x.marks(2, 2);
        due("4 barred", x.meet(0, 3), BARRED);
        x.marks(0, 0);
        due("4 broken", x.meet(0, 3), BROKEN);
        x.drop(1);
        due("4 lost", x.meet(0, 3), LOST);
        x.field(1, 0, 7, 4, 7);
        due("4 closed, ahead of changed", x.meet(0, 3), CLOSED);
        x.mark(1, 0);
        due("4 changed the other way, ahead of r", x.meet(0, 3), CHANGED);
        x.mark(1, 1);
        due("4 cast, and r is not looked at", x.meet(0, 3), CAST);
        x.retype(1, 1, -1);
        dueMet("4 nothing is wrong but with r", x, 0, 3, -1);
    }

    private static void callLadder() {
        Edits13 x = allWrong();
        x.type(true, NO, 0);
        x.type(true, NO, 0);
        x.method(4, 0, NO, NO, 0, 11);
        x.method(5, 0, NO, NO, 0, 12);
        x.method(1, 0, NO, NO, 0, 13);
        due("3 nothing is read when it is made", x.call(1, 0, NO, NO), 0);
        x.drop(6);
        x.marks(0, 2);
        x.marks(2, 2);
        due("4 barred, ahead of broken", x.meet(0, 3), BARRED);
        x.marks(0, 0);
        due("4 broken, ahead of lost", x.meet(0, 3), BROKEN);
        x.drop(1);
        due("4 lost", x.meet(0, 3), LOST);
        x.method(1, 0, NO, NO, 5, 14);
        due("4 closed, ahead of changed", x.meet(0, 3), CLOSED);
        x.mark(1, 1);
        due("4 changed, ahead of r", x.meet(0, 3), CHANGED);
        x.mark(1, 8);
        due("4 r is barred, ahead of broken", x.meet(0, 3), BARRED);
        x.marks(2, 0);
        due("4 r is broken, ahead of unlike", x.meet(0, 3), BROKEN);
        x.drop(3);
        due("4 unlike, ahead of empty", x.meet(0, 3), UNLIKE);
        x.above(2, 1);
        due("4 empty", x.meet(0, 3), EMPTY);
        x.face(1, 4);
        x.face(3, 5);
        due("4 empty, ahead of what faces have", x.meet(0, 3), EMPTY);
        x.drop(1);
        due("4 a clash", x.meet(0, 3), CHANGED);
        dueMet("4 no clash on another r", x, 0, 2, 11);
        x.mark(5, 8);
        dueMet("4 nothing is wrong", x, 0, 3, 11);
    }

    private static void staticCallLadder() {
        Edits13 x = allWrong();
        x.method(1, 0, 2, NO, 1, 7);
        x.call(1, 0, 2, NO);
        x.drop(4);
        x.marks(0, 2);
        x.marks(2, 2);
        due("4 barred", x.meet(0, 3), BARRED);
        x.marks(0, 0);
        due("4 broken", x.meet(0, 3), BROKEN);
        x.drop(1);
        due("4 lost", x.meet(0, 3), LOST);
        x.method(1, 0, 3, NO, 1, 9);
        due("4 lost, with one that is not like it", x.meet(0, 3), LOST);
        x.method(1, 0, 2, NO, 4, 8);
        due("4 closed, ahead of changed", x.meet(0, 3), CLOSED);
        x.mark(4, 8);
        due("4 changed the other way, ahead of r", x.meet(0, 3), CHANGED);
        x.mark(4, 3);
        dueMet("4 nothing is wrong but with r", x, 0, 3, 8);
    }

    private static void newLadder() {
        Edits13 x = allWrong();
        x.make(1);
        x.marks(1, 1);
        x.marks(0, 2);
        x.marks(2, 2);
        due("4 barred, ahead of broken", x.meet(0, 3), BARRED);
        x.marks(0, 0);
        due("4 broken, ahead of hollow", x.meet(0, 3), BROKEN);
        due("20 a fault, ahead of broken", x.anew(0, 3), NOT_MADE);
        x.drop(1);
        due("4 hollow", x.meet(0, 3), HOLLOW);
        x.marks(1, 2);
        dueMet("4 nothing is wrong but with r", x, 0, 3, 1);
        due("20 anew", x.anew(0, 3), 0);
    }

    private static void keptLadder() {
        Edits13 x = allWrong();
        x.field(1, 0, 1, 3, 300);
        x.get(1, 0);
        x.marks(0, 2);
        x.marks(2, 2);
        dueMet("4 nothing is read", x, 0, 3, 44);
        x.mark(4, 4);
        dueMet("4 closed, changed", x, 0, 3, 44);
        x.retype(4, 0, 0);
        dueMet("4 cast", x, 0, 3, 44);
        x.drop(4);
        dueMet("4 lost", x, 0, 3, 44);
        due("20 anew", x.anew(0, 3), NO_SUCH);
    }

    private static void changedFace() {
        Edits13 x = types(1, 1);
        x.method(1, 0, NO, NO, 1, 7);
        x.method(0, 0, NO, NO, 1, 8);
        x.call(1, 0, NO, NO);
        x.call(0, 0, NO, NO);
        for (int i = 0; i < 4; i++) x.undo();
        x.type(true, NO, 0);
        x.type(false, NO, 0);
        due("4 a class was a face, ahead of lost", x.meet(0, 1), CHANGED);
        due("4 a face was a class, ahead of lost", x.meet(1, 1), CHANGED);
        x.method(1, 0, NO, NO, 5, 7);
        x.method(0, 0, NO, NO, 5, 8);
        due("4 ahead of closed", x.meet(0, 1), CHANGED);
        due("4 ahead of closed", x.meet(1, 1), CHANGED);
        x.mark(0, 0);
        x.mark(1, 1);
        due("4 ahead of changed from static", x.meet(0, 1), CHANGED);
        due("4 where all else is as it was", x.meet(1, 1), CHANGED);
        x.type(false, NO, 2);
        x.above(1, 2);
        due("4 barred goes ahead of it", x.meet(0, 1), BARRED);
        due("4 a face reads nothing above", x.meet(1, 1), CHANGED);
        due("20 anew it is found", x.anew(1, 1), 0);
        due("20 its value", x.asked(), 8);
    }

    private static void readUpwards() {
        Edits13 x = tower();
        x.method(11, 0, NO, NO, 2, 1);
        x.make(0);
        x.make(11);
        x.marks(0, 2);
        dueMet("4 final itself is not barred", x, 0, 0, 0);
        x.marks(11, 2);
        due("4 barred at the top", x.meet(0, 0), BARRED);
        dueMet("4 the topmost itself is not", x, 1, 0, 11);
        x.marks(11, 0);
        x.method(0, 0, NO, NO, 0, 1);
        due("4 broken over eleven", x.meet(0, 0), BROKEN);
        x.marks(4, 2);
        due("4 barred further up goes ahead of broken", x.meet(0, 0), BARRED);
        x.marks(4, 0);
        x.move(1, 6);
        due("4 broken further up", x.meet(0, 0), BROKEN);
        x.marks(3, 2);
        due("4 broken further up goes ahead of barred", x.meet(0, 0), BROKEN);
        x.marks(10, 2);
        due("4 barred still further up", x.meet(0, 0), BARRED);
        x.marks(10, 0);
        x.above(5, NO);
        due("4 what is cut off is not read", x.meet(0, 0), BARRED);
        x.marks(3, 0);
        dueMet("4 and breaks nothing", x, 0, 0, 0);
    }

    private static void readAside() {
        Edits13 x = types(2, 2);
        x.above(0, 1);
        x.face(0, 2);
        x.face(2, 3);
        x.marks(2, 3);
        x.marks(3, 3);
        x.method(1, 0, NO, NO, 2, 1);
        x.method(2, 0, NO, NO, 2, 2);
        x.method(3, 0, NO, NO, 2, 3);
        x.method(2, 1, NO, NO, 0, 4);
        x.method(3, 1, NO, NO, 2, 5);
        x.method(0, 1, NO, NO, 0, 6);
        x.make(0);
        x.call(0, 0, NO, NO);
        x.call(2, 1, NO, NO);
        dueMet("4 faces bar nothing and break nothing", x, 0, 0, 0);
        dueMet("4 a face's one is not the class's", x, 1, 0, 1);
        dueMet("4 a face is read", x, 2, 0, 6);
        x.method(0, 0, NO, NO, 8, 7);
        due("4 the class's own one is", x.meet(0, 0), BROKEN);
        due("4 r is read", x.meet(2, 0), BROKEN);
        x.mark(0, 6);
        dueMet("4 not like a hidden final one", x, 0, 0, 0);
        x.mark(0, 3);
        dueMet("4 not like a static final one", x, 0, 0, 0);
        x.mark(0, 2);
        due("4 like a final one", x.meet(0, 0), BROKEN);
        x.mark(6, 4);
        dueMet("4 a hidden one breaks nothing", x, 0, 0, 0);
        x.mark(6, 1);
        dueMet("4 a static one breaks nothing", x, 0, 0, 0);
        x.mark(6, 2);
        due("4 a final one breaks too", x.meet(0, 0), BROKEN);
        x.drop(6);
        x.method(0, 0, 0, NO, 0, 7);
        dueMet("4 one with other parameters breaks nothing", x, 0, 0, 0);
    }

    // 0 is below 1. Methods that are like a final one in some of their parameters break nothing.
    private static void readLike() {
        Edits13 x = types(2, 0);
        x.above(0, 1);
        x.make(0);
        x.marks(1, 1);
        dueMet("4 abstract above is not final above", x, 0, 0, 0);
        x.method(0, 0, 0, 1, 0, 7);
        x.method(1, 0, 0, 0, 2, 8);
        x.method(1, 0, 1, 1, 2, 8);
        x.method(1, 0, 1, 0, 2, 8);
        x.method(1, 0, 0, NO, 2, 8);
        x.method(1, 0, NO, NO, 2, 8);
        x.method(1, 1, 0, 1, 2, 8);
        dueMet("4 none is like it", x, 0, 0, 0);
        x.method(1, 0, 0, 1, 2, 8);
        due("4 this one is", x.meet(0, 0), BROKEN);
        x.mark(7, 0);
        dueMet("4 but not if it is not final", x, 0, 0, 0);
    }

    // Callers that do not look at r want a CLASS all the same.
    private static void lookedAtAlways() {
        Edits13 x = types(1, 1);
        x.field(0, 0, 4, 1, 7);
        x.field(0, 1, 4, 3, 8);
        x.method(0, 0, NO, NO, 1, 9);
        x.get(0, 0);
        x.get(0, 1);
        x.call(0, 0, NO, NO);
        x.make(0);
        for (int c = 0; c < 4; c++) {
            for (int r : new int[] {1, 2, -1, NO, 12}) {
                due("18 r is looked at", x.meet(c, r), BAD);
                due("20 r is looked at", x.anew(c, r), BAD);
                due("21 r is looked at", x.culprit(c, r), BAD);
            }
            due("18 r is a class", x.meet(c, 0), 0);
        }
    }

    // ---- 5: edits, and undo

    // A house of 119 edits in which every edit is possible.
    private static Edits13 almostFull() {
        Edits13 x = types(3, 2);
        x.above(1, 0);
        x.face(1, 3);
        x.field(0, 0, 4, 1, 7);
        x.method(0, 0, NO, NO, 0, 8);
        for (int i = 9; i < 119; i++) x.set(0, i);
        return x;
    }

    private static void lastEdit() {
        Call[] edits = {
            x -> x.type(false, 0, 0), x -> x.above(2, 1), x -> x.face(1, 4), x -> x.unface(1, 0), x -> x.marks(0, 2),
            x -> x.field(0, 1, 4, 0, 1), x -> x.method(0, 1, 0, 1, 8, 1), x -> x.drop(0), x -> x.mark(1, 4),
            x -> x.set(1, 1), x -> x.retype(0, 1, 1), x -> x.move(0, 3)};
        long[] answers = {5, 1, 2, 0, 0, 2, 2, 1, 0, 1, 1, 1};
        for (int i = 0; i < edits.length; i++) {
            Edits13 x = almostFull();
            long before = x.digest();
            due("5 the 120th edit, " + i, edits[i].on(x), answers[i]);
            due("5 they are 120", x.count(3), 120);
            due("5 a 121st", x.set(1, 0), FULL);
            due("14 the 120th is taken back", x.undo(), 119);
            due("14 all is as before it", x.digest(), before);
            due("5 there is room for it again", edits[i].on(x), answers[i]);
            due("14 and for it to be taken back", x.undo(), 119);
        }
    }

    private static void takenBack() {
        Edits13 x = almostFull();
        Edits13 y = types(3, 2);
        y.above(1, 0);
        y.face(1, 3);
        y.field(0, 0, 4, 1, 7);
        y.method(0, 0, NO, NO, 0, 8);
        for (int edits = 118; edits >= 9; edits--) due("14 undo", x.undo(), edits);
        due("14 as if they had not come", x.digest(), y.digest());
        due("14 the method", x.undo(), 8);
        due("14 the field", x.undo(), 7);
        due("27 no members", x.count(1), 0);
        due("24 its face", x.below(1, 3) * 10 + x.undo() * 100 + x.below(1, 3), 610);
        due("24 what was above it", x.below(1, 0) * 10 + x.undo() * 100 + x.below(1, 0), 510);
        for (int edits = 4; edits >= 0; edits--) {
            due("14 undo", x.undo(), edits);
            due("27 types", x.count(0), edits);
        }
        due("14 nothing is left", x.undo(), NO);
        due("14 nothing is left still", x.undo(), NO);
        due("28 as a new one", x.digest(), new Edits13().digest());
        due("2 and can be used", x.type(false, NO, 0), 0);
        Edits13 z = types(1, 0);
        for (int i = 0; i < 5; i++) z.field(0, i, 4, 0, i);
        z.drop(1);
        z.drop(3);
        due("7 the least free one", z.field(0, 7, 4, 0, 9), 1);
        due("14 a field", z.undo(), 8);
        due("14 a drop", z.undo(), 7);
        due("25 the dropped one is there", z.member(3, 2), 3);
        due("25 the other one is not", z.member(1, 2), BAD);
        due("7 the least free one", z.field(0, 8, 4, 0, 9), 1);
    }

    private static void numbersAgain() {
        Edits13 x = types(2, 0);
        x.field(1, 0, 4, 0, 7);
        x.get(1, 0);
        x.make(1);
        x.undo();
        due("5 lost, as the field is", x.meet(0, 0), LOST);
        due("7 a member has the number again", x.method(1, 0, NO, NO, 0, 1), 0);
        x.undo();
        x.undo();
        due("5 lost, as the type is", x.meet(0, 0), LOST);
        due("5 lost, as the type is", x.meet(1, 0), LOST);
        due("2 a type has the number again", x.type(false, 0, 0), 1);
        dueMet("5 the caller names that one", x, 1, 0, 1);
        due("5 it has no such field", x.meet(0, 1), LOST);
        x.field(0, 0, 2, 0, 300);
        dueMet("5 it finds another one", x, 0, 1, 300);
        x.undo();
        x.undo();
        due("2 a face has the number again", x.type(true, NO, 3), 1);
        dueMet("5 of a face the mark does not count", x, 1, 0, 1);
        due("20 a face is not to be made", x.anew(1, 0), NOT_MADE);
        due("5 no such field in it", x.meet(0, 0), LOST);
        x.field(1, 0, 4, 1, 8);
        due("4 changed", x.meet(0, 0), CHANGED);
    }

    private static void lostAheadOfAll() {
        Edits13 x = types(3, 0);
        x.method(0, 0, 1, NO, 1, 7);
        x.method(0, 0, 1, 2, 1, 8);
        x.method(0, 0, 2, 1, 1, 9);
        x.call(0, 0, 1, NO);
        x.call(0, 0, 1, 2);
        x.call(0, 0, 2, 1);
        for (int i = 0; i < 4; i++) x.undo();
        due("5 a second parameter is no more", x.meet(1, 0), LOST);
        due("5 a first parameter is no more", x.meet(2, 0), LOST);
        x.method(0, 0, 1, NO, 1, 6);
        dueMet("5 those of this one are there", x, 0, 0, 6);
        x.type(false, NO, 2);
        x.above(0, 2);
        due("5 all parameters are there: barred", x.meet(1, 0), BARRED);
        x.undo();
        x.undo();
        due("5 one is not, again", x.meet(1, 0), LOST);
        due("20 nor is an argument", x.anew(1, 0), NO);
        due("20 nor is one of this one", x.anew(2, 0), NO);
        due("20 those of this one are", x.anew(0, 0), 0);
        Edits13 y = types(2, 0);
        y.field(1, 0, 4, 3, 7);
        y.get(1, 0);
        y.undo();
        dueMet("5 its type is there still", y, 0, 0, 7);
        y.undo();
        due("5 the type of one that keeps a value is no more", y.meet(0, 0), LOST);
        due("20 nor is it there to be named", y.anew(0, 0), NO);
        y.type(true, NO, 0);
        dueMet("5 a type has the number again", y, 0, 0, 7);
        due("20 it has no such field", y.anew(0, 0), NO_SUCH);
    }

    private static void keptForEver() {
        Edits13 x = types(2, 0);
        x.field(0, 0, 4, 3, 7);
        x.get(0, 0);
        x.set(0, 8);
        dueMet("3 kept", x, 0, 1, 7);
        due("20 anew", x.anew(0, 1) + x.asked(), 8);
        dueMet("3 kept", x, 0, 1, 7);
        x.undo();
        x.undo();
        dueMet("5 kept, though the field never was", x, 0, 1, 7);
        x.field(0, 0, 0, 0, 1);
        dueMet("5 kept, with another one in its place", x, 0, 1, 7);
        due("22 it keeps a value", x.caller(0, 5), 1);
        for (int marks = 0; marks < 4; marks++) {
            Edits13 y = types(1, 0);
            y.field(0, 0, 4, marks, 7);
            y.get(0, 0);
            due("3 only of what is static and final, " + marks, y.caller(0, 5), marks == 3 ? 1 : 0);
            y.mark(0, marks ^ 2);
            due("3 final or not by now, " + marks, y.caller(0, 5), marks == 3 ? 1 : 0);
            y.set(0, 8);
            dueMet("3 what is met, " + marks, y, 0, 0, marks == 3 ? 7 : 8);
        }
    }

    private static void askedLast() {
        Edits13 x = types(2, 0);
        x.field(0, 0, 5, 0, Long.MIN_VALUE);
        x.method(0, 0, NO, NO, 0, -5);
        x.get(0, 0);
        x.call(0, 0, NO, NO);
        x.make(1);
        due("19 before", x.asked(), 0);
        due("18 unlike", x.meet(0, 1), UNLIKE);
        due("19 before, still", x.asked(), 0);
        due("18 bad", x.meet(3, 0), BAD);
        due("19 before, still", x.asked(), 0);
        dueMet("19 a field", x, 0, 0, Long.MIN_VALUE);
        dueMet("19 a method", x, 1, 0, -5);
        dueMet("19 a new one", x, 2, 0, 1);
        due("18 unlike", x.meet(0, 1), UNLIKE);
        due("20 unlike", x.anew(1, 1), UNLIKE);
        due("20 bad", x.anew(1, 2), BAD);
        due("19 stays at refusals", x.asked(), 1);
        x.set(0, 0);
        due("19 stays at edits", x.asked(), 1);
        dueMet("19 a zero is asked for too", x, 0, 0, 0);
        dueMet("19 again", x, 2, 0, 1);
        due("21 the edit", x.culprit(0, 0), 5);
        due("19 stays at a culprit", x.asked(), 1);
        x.get(0, 0);
        due("19 stays when one is made", x.asked(), 1);
    }

    private static void anewMade() {
        Edits13 x = types(2, 0);
        x.above(1, 0);
        x.field(0, 0, 4, 0, 7);
        x.get(1, 0);
        x.field(1, 0, 5, 3, 8);
        due("20 old: changed", x.meet(0, 1), CHANGED);
        due("20 anew it finds the nearer one, and keeps it", x.anew(0, 0) + x.asked(), 8);
        x.method(0, 0, 0, 1, 0, 9);
        due("20 the next one that is made", x.call(0, 0, 1, 1), 1);
        due("22 keeps nothing of that", x.caller(1, 5), 0);
        due("20 it calls", x.anew(1, 0) + x.asked(), 9);
        due("20 the next one that is made", x.make(0), 2);
        due("22 keeps nothing of that", x.caller(2, 3) + x.caller(2, 4) + x.caller(2, 5), NO + NO);
        dueMet("18 and is what it is", x, 2, 0, 0);
        x.mark(1, 7);
        due("20 old: closed", x.meet(0, 1), CLOSED);
        due("20 anew it passes over it, and then meets it", x.anew(0, 1), CLOSED);
        due("22 it is as it was", x.caller(0, 5) * 100 + x.caller(0, 6), 4);
        due("27 no caller came by it", x.count(2), 3);
        x.drop(0);
        due("20 no such", x.anew(0, 1), NO_SUCH);
        for (int c = 3; c < 24; c++) x.make(0);
        due("20 a fault, not full", x.anew(0, 1), NO_SUCH);
        due("20 all places taken", x.anew(23, 1), 0);
        x.marks(0, 1);
        due("20 hollow", x.anew(23, 1), NOT_MADE);
        due("18 hollow", x.meet(23, 1), HOLLOW);
    }

    // ---- the culprit

    private static void culpritEnds() {
        Edits13 x = types(1, 0);
        x.make(0);
        due("21 none is behind", x.culprit(0, 0), 0);
        x.marks(0, 1);
        due("21 the second edit", x.culprit(0, 0), 2);
        x.undo();
        due("21 it is taken back", x.culprit(0, 0), 0);
        x.marks(0, 0);
        for (int i = 2; i < 118; i++) x.marks(0, 2);
        due("21 none of these", x.culprit(0, 0), 0);
        due("17 made behind 118", x.make(0), 1);
        x.marks(0, 0);
        due("17 made behind 119", x.make(0), 2);
        x.marks(0, 1);
        due("27 all", x.count(3), 120);
        for (int c = 0; c < 3; c++) due("21 the last edit of all", x.culprit(c, 0), 120);
        x.undo();
        for (int c = 0; c < 3; c++) due("21 none of 119", x.culprit(c, 0), 0);
        x.undo();
        due("21 fewer edits than then, by one", x.culprit(2, 0), NO);
        due("21 as many as then", x.culprit(1, 0), 0);
        x.undo();
        due("21 fewer edits than then, by one", x.culprit(1, 0), NO);
        due("21 more than then", x.culprit(0, 0), 0);
        Edits13 y = almostFull();
        y.set(0, 1);
        y.get(0, 0);
        due("21 made behind 120", y.culprit(0, 0), 0);
        due("22 behind 120", y.caller(0, 6), 120);
        y.undo();
        due("21 fewer than 120", y.culprit(0, 0), NO);
    }

    private static void culpritKinds() {
        Edits13 x = types(2, 0);
        x.field(0, 0, 4, 0, 0);
        x.get(0, 0);
        x.set(0, 0);
        x.retype(0, 1, 0);
        x.mark(0, 2);
        due("21 the same is met", x.culprit(0, 0), 0);
        due("21 unlike all along", x.culprit(0, 1), 0);
        x.mark(0, 4);
        due("21 a failure where a zero was", x.culprit(0, 0), 7);
        due("21 another failure", x.culprit(0, 1), 7);
        x.mark(0, 0);
        x.set(0, 5);
        due("21 the first of them, though all was well again", x.culprit(0, 0), 7);
        x.get(0, 0);
        x.above(1, 0);
        due("21 no failure where one was", x.culprit(1, 1), 10);
        due("21 nothing on the other r", x.culprit(1, 0), 0);
        x.set(0, 6);
        due("21 another value", x.culprit(1, 0), 11);
        x.drop(0);
        due("21 on each r its own first one", x.culprit(1, 1), 10);
        x.type(false, NO, 0);
        due("21 r was no class then", x.culprit(1, 2), BAD);
        due("18 though it is one now", x.meet(1, 2), LOST);
        x.get(0, 0);
        Edits13 y = types(1, 0);
        y.field(0, 0, 4, 3, 7);
        y.get(0, 0);
        y.set(0, 8);
        y.drop(0);
        y.marks(0, 1);
        due("21 what is kept has no culprit", y.culprit(0, 0), 0);
        Edits13 z = types(2, 0);
        z.method(0, 0, NO, NO, 0, 7);
        z.call(0, 0, NO, NO);
        z.method(1, 0, NO, NO, 0, 8);
        z.above(1, 0);
        due("21 where it met nothing, it meets something", z.culprit(0, 1), 5);
        due("21 on the other r nothing else", z.culprit(0, 0), 0);
        z.mark(1, 8);
        z.undo();
        z.undo();
        due("21 what is taken back is no culprit", z.culprit(0, 1), 0);
    }

    // Behind that many edits means: behind that many of those that there are now.
    private static void culpritOtherWay() {
        Edits13 x = types(2, 0);
        x.field(0, 0, 4, 0, 7);
        x.get(0, 0);
        x.undo();
        x.field(0, 0, 4, 0, 8);
        due("21 as many as then, and other ones", x.culprit(0, 0), 0);
        x.set(0, 7);
        due("21 what it met when it was made is something else", x.culprit(0, 0), 4);
        x.undo();
        x.undo();
        due("21 fewer", x.culprit(0, 0), NO);
        x.marks(1, 1);
        due("21 lost behind that many", x.culprit(0, 0), 0);
        x.field(0, 0, 4, 0, 7);
        due("21 lost no more", x.culprit(0, 0), 4);
    }
}
