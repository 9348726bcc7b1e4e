// Promises 23 to 28: what is told of the house.
public final class HouseTest {
    private static final int NO = Edits13.NONE, BAD = Edits13.BAD, RING = Edits13.RING;
    private static int wrong = 0;

    private static void due(String what, long got, long want) {
        if (got == want) return;
        wrong++;
        System.out.println(what + " answered " + got + ", due is " + want);
    }

    public static void main(String[] args) {
        told();
        below();
        member();
        selectedAmongClasses();
        selectedAmongFaces();
        selectedNearest();
        count();
        digest();
        System.out.println(wrong == 0 ? "what there is is as due" : wrong + " answers are not as due");
        if (wrong != 0) System.exit(1);
    }

    private static void told() {
        Edits13 x = new Edits13();
        x.type(false, NO, 2);
        x.type(true, NO, 1);
        x.type(false, 0, 3);
        x.face(2, 1);
        int[] want = {0, 0, 3, 1, 1, NO, NO};
        for (int what = 0; what < 7; what++) due("23 told 2 " + what, x.told(2, what), want[what]);
        int[] face = {1, NO, 1, 0, NO, NO, NO};
        for (int what = 0; what < 7; what++) due("23 told 1 " + what, x.told(1, what), face[what]);
        due("23 absent", x.told(3, 0), BAD);
        due("23 negative", x.told(-1, 0), BAD);
        due("23 what -1", x.told(0, -1), BAD);
        due("23 what 7", x.told(0, 7), BAD);
    }

    private static void below() {
        Edits13 x = new Edits13();
        x.type(false, NO, 0);
        x.type(false, 0, 0);
        for (int t = 2; t < 5; t++) x.type(true, NO, 0);
        x.face(0, 2);
        x.face(2, 3);
        due("24 itself", x.below(1, 1), 1);
        due("24 above", x.below(1, 0), 1);
        due("24 not turned", x.below(0, 1), 0);
        due("24 face of above", x.below(1, 2), 1);
        due("24 face of face", x.below(1, 3), 1);
        due("24 no face", x.below(1, 4), 0);
        due("24 later edge", x.face(3, 4), 1);
        due("24 through all", x.below(1, 4), 1);
        x.unface(2, 0);
        due("24 cut", x.below(1, 4), 0);
        due("24 absent", x.below(5, 0), BAD);
        due("24 absent other", x.below(0, 5), BAD);
        due("24 none", x.below(0, NO), BAD);
    }

    private static void member() {
        Edits13 x = new Edits13();
        x.type(false, NO, 0);
        x.type(false, NO, 0);
        x.field(1, 3, 6, 5, 9);
        x.method(1, 4, 0, 1, 8, 9);
        x.method(0, 5, NO, NO, 2, 9);
        int[][] want = {{0, 1, 3, 5, 6, NO}, {1, 1, 4, 8, 0, 1}, {1, 0, 5, 2, NO, NO}};
        for (int m = 0; m < 3; m++) {
            for (int what = 0; what < 6; what++) due("25 member " + m + " " + what, x.member(m, what), want[m][what]);
        }
        due("25 absent", x.member(3, 0), BAD);
        due("25 negative", x.member(-1, 0), BAD);
        due("25 sixty", x.member(60, 0), BAD);
        due("25 what 6", x.member(0, 6), BAD);
        due("25 what -1", x.member(0, -1), BAD);
    }

    private static void selectedAmongClasses() {
        Edits13 x = new Edits13();
        x.type(false, NO, 0);
        x.type(false, 0, 0);
        x.type(false, 1, 0);
        x.type(true, NO, 0);
        x.face(2, 3);
        x.method(0, 0, NO, NO, 0, 0);
        x.method(1, 0, NO, NO, 0, 0);
        x.method(3, 0, NO, NO, 0, 0);
        x.field(0, 0, 0, 0, 0);
        due("26 nearest class", x.selected(2, 0), 1);
        due("26 itself", x.selected(0, 1), 0);
        x.mark(1, 1);
        due("26 static is passed over", x.selected(2, 1), 0);
        x.mark(1, 4);
        due("26 hidden is passed over", x.selected(2, 1), 0);
        x.mark(1, 8);
        due("26 abstract", x.selected(2, 0), NO);
        x.drop(0);
        x.drop(1);
        due("26 face", x.selected(2, 2), 2);
        due("26 no face of it", x.selected(1, 2), NO);
        due("26 of a face", x.selected(3, 2), BAD);
        due("26 absent class", x.selected(4, 2), BAD);
        due("26 dropped", x.selected(2, 1), BAD);
        due("26 field", x.selected(2, 3), BAD);
        due("26 negative", x.selected(2, -1), BAD);
    }

    private static void selectedAmongFaces() {
        Edits13 x = new Edits13();
        x.type(false, NO, 0);
        for (int t = 1; t < 4; t++) {
            x.type(true, NO, 0);
            x.face(0, t);
            x.method(t, 0, NO, NO, 8, t);
        }
        due("26 all abstract", x.selected(0, 0), NO);
        x.mark(1, 0);
        due("26 just one is not", x.selected(0, 0), 1);
        x.mark(2, 0);
        due("26 clash", x.selected(0, 0), RING);
        x.mark(1, 1);
        due("26 static does not clash", x.selected(0, 0), 2);
        x.mark(1, 4);
        due("26 hidden does not clash", x.selected(0, 0), 2);
        x.mark(1, 2);
        due("26 final clashes", x.selected(0, 0), RING);
        x.method(0, 0, 0, NO, 0, 0);
        due("26 other parameters are not like", x.selected(0, 0), RING);
    }

    private static void selectedNearest() {
        Edits13 x = new Edits13();
        x.type(false, NO, 0);
        x.type(false, 0, 0);
        for (int t = 2; t < 5; t++) x.type(true, NO, 0);
        x.face(0, 2);
        x.face(1, 3);
        x.method(2, 0, NO, NO, 0, 0);
        x.method(3, 0, NO, NO, 0, 0);
        due("26 faces of above count", x.selected(1, 0), RING);
        x.face(3, 4);
        x.face(4, 2);
        due("26 below through one without", x.selected(1, 0), 1);
        x.mark(1, 8);
        due("26 the nearer one is abstract", x.selected(1, 0), NO);
        x.mark(1, 1);
        due("26 the nearer one is static", x.selected(1, 0), 0);
        due("26 the class above", x.selected(0, 0), 0);
        x.method(0, 1, 1, 0, 0, 0);
        x.method(0, 1, 0, 1, 0, 0);
        x.method(0, 1, 0, 0, 0, 0);
        x.method(0, 1, 1, NO, 0, 0);
        for (int m = 2; m < 6; m++) due("26 by the parameters " + m, x.selected(1, m), m);
    }

    private static void count() {
        Edits13 x = new Edits13();
        x.type(false, NO, 0);
        x.type(false, NO, 0);
        x.field(0, 0, 0, 0, 0);
        x.make(0);
        x.make(0);
        x.make(1);
        x.drop(0);
        x.field(0, 0, 0, 0, 0);
        int[] want = {2, 1, 3, 5};
        for (int what = 0; what < 4; what++) due("27 count " + what, x.count(what), want[what]);
        due("27 what 4", x.count(4), BAD);
        due("27 what -1", x.count(-1), BAD);
        x.undo();
        due("27 undone", x.count(1), 0);
        due("27 callers stay", x.count(2), 3);
    }

    private static void digest() {
        Edits13 x = new Edits13();
        x.type(true, NO, 0);
        x.type(false, NO, 2);
        x.face(1, 0);
        x.field(1, 1, 2, 1, 0);
        x.field(1, 2, 2, 1, -1);
        x.field(1, 3, 6, 0, 16777217);
        x.method(1, 2, 0, 1, 0, -5);
        x.field(0, 0, 0, 1, 256);
        x.drop(0);
        x.make(1);
        long[] told = {
            1, NO, 0, 0, NO, NO, NO,
            0, NO, 2, 1, 0, NO, NO,
            1, 0, 1, 2, 1, 2, NO, 65535,
            2, 0, 1, 3, 0, 6, NO, 16777216,
            3, 1, 1, 2, 0, 0, 1, -5,
            4, 0, 0, 0, 1, 0, NO, 1,
            9};
        long h = 17;
        for (long v : told) h = 31 * h + v;
        due("28 digest", x.digest(), h);
    }
}
