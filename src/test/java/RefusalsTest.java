// Every refusal of every call: its answer, that nothing at all has changed by it, and, where several
// refusals hold at once, that the first one is answered.
public final class RefusalsTest {
    private static final int NO = Edits13.NONE, BAD = Edits13.BAD, FULL = Edits13.FULL, RING = Edits13.RING;
    private static final int NO_SUCH = -11, MANY = -12, NOT_MADE = -13;
    private static final int BARRED = -31, BROKEN = -32, LOST = -33, CLOSED = -34, CHANGED = -35;
    private static final int UNLIKE = -36, CAST = -37, EMPTY = -38, HOLLOW = -39;
    private static int wrong = 0;

    private interface House {
        Edits13 built();
    }

    private interface Call {
        long on(Edits13 x);
    }

    public static void main(String[] args) {
        constants();
        types();
        aboves();
        faces();
        unfaces();
        typeMarks();
        fields();
        methods();
        drops();
        memberMarks();
        sets();
        retypes();
        moves();
        undoes();
        gets();
        calls();
        makes();
        callersFull();
        meets();
        failures();
        anews();
        culprits();
        tellings();
        System.out.println(wrong == 0 ? "all refusals are as due" : wrong + " refusals are not as due");
        if (wrong != 0) System.exit(1);
    }

    // ---- how a refusal is looked at

    // An object is good for 512 calls, so what is told of it is asked of one object after another.
    private static final int PARTS = 9;

    private static void refused(String what, House house, Call call, long want) {
        long got = call.on(house.built());
        if (got != want) {
            wrong++;
            System.out.println(what + " answered " + got + ", due is " + want);
        }
        for (int part = 0; part < PARTS; part++) {
            Edits13 asked = house.built();
            call.on(asked);
            if (told(asked, part).equals(told(house.built(), part))) continue;
            wrong++;
            System.out.println(what + " changed something, as part " + part + " tells");
        }
    }

    private static void bad(String what, House house, Call... calls) {
        for (int i = 0; i < calls.length; i++) refused(what + ", " + i, house, calls[i], BAD);
    }

    private static String told(Edits13 x, int part) {
        StringBuilder s = new StringBuilder();
        switch (part) {
            case 0: tellTypes(x, s); break;
            case 1: tellBelow(x, s); break;
            case 2: tellMembers(x, s); break;
            case 3: tellSelected(x, s); break;
            case 4: tellCallers(x, s); break;
            case 5: tellMet(x, s); break;
            case 6: tellAnew(x, s); break;
            case 7: tellUndone(x, s); break;
            default: tellNext(x, s); break;
        }
        return s.toString();
    }

    private static void tellTypes(Edits13 x, StringBuilder s) {
        for (int what = 0; what < 4; what++) s.append(x.count(what)).append(' ');
        s.append(x.asked()).append(' ').append(x.digest()).append(' ');
        for (int t = 0; t < 12; t++) for (int what = 0; what < 7; what++) s.append(x.told(t, what)).append(' ');
    }

    private static void tellBelow(Edits13 x, StringBuilder s) {
        for (int t = 0; t < 12; t++) for (int o = 0; o < 12; o++) s.append(x.below(t, o)).append(' ');
    }

    private static void tellMembers(Edits13 x, StringBuilder s) {
        for (int m = 0; m < 60; m++) for (int what = 0; what < 6; what += 2) s.append(x.member(m, what)).append(' ');
        for (int m = 0; m < 60; m++) s.append(x.member(m, 1)).append(' ').append(x.member(m, 3)).append(' ');
    }

    private static void tellSelected(Edits13 x, StringBuilder s) {
        for (int t = 0; t < 6; t++) for (int m = 0; m < 60; m++) s.append(x.selected(t, m)).append(' ');
    }

    private static void tellCallers(Edits13 x, StringBuilder s) {
        for (int c = 0; c < 24; c++) for (int what = 0; what < 7; what++) s.append(x.caller(c, what)).append(' ');
    }

    private static void tellMet(Edits13 x, StringBuilder s) {
        for (int c = 0; c < 24; c++) {
            for (int r = 0; r < 6; r++) s.append(x.meet(c, r)).append(' ').append(x.asked()).append(' ');
        }
    }

    private static void tellAnew(Edits13 x, StringBuilder s) {
        for (int c = 0; c < 24; c++) {
            for (int r = 0; r < 4; r++) s.append(x.anew(c, r)).append(' ').append(x.asked()).append(' ');
            s.append(x.culprit(c, 1)).append(' ');
        }
    }

    private static void tellUndone(Edits13 x, StringBuilder s) {
        for (int i = 0; i < 121; i++) s.append(x.undo()).append(' ').append(x.digest()).append(' ');
    }

    private static void tellNext(Edits13 x, StringBuilder s) {
        s.append(x.type(true, NO, 0)).append(' ').append(x.field(0, 9, 4, 0, 1)).append(' ');
        s.append(x.method(0, 9, NO, NO, 0, 1)).append(' ').append(x.make(0)).append(' ').append(x.get(0, 9))
            .append(' ');
        s.append(x.call(0, 9, NO, NO)).append(' ').append(x.undo()).append(' ').append(x.digest());
    }

    // ---- houses

    // Classes 0, 1 below 0, 2 abstract and below 1; faces 3, 4, 5; 1 has the faces 3, 4, 5; 3 has the face 4.
    private static Edits13 family() {
        Edits13 x = new Edits13();
        x.type(false, NO, 0);
        x.type(false, 0, 0);
        x.type(false, 1, 1);
        for (int t = 3; t < 6; t++) x.type(true, NO, 0);
        for (int t = 3; t < 6; t++) x.face(1, t);
        x.face(3, 4);
        return x;
    }

    // The family with fields 0, 1, 3 (4 of the face 3), methods 5 to 8, the number 2 free, and six callers.
    private static Edits13 peopled() {
        Edits13 x = family();
        x.field(0, 0, 4, 0, 7);
        x.field(0, 1, 1, 3, 300);
        x.field(0, 9, 1, 3, 300);
        x.field(1, 2, 5, 1, 99);
        x.field(3, 3, 2, 1, -1);
        x.method(0, 0, NO, NO, 0, 70);
        x.method(0, 1, 0, 1, 0, 71);
        x.method(1, 0, NO, NO, 0, 72);
        x.method(3, 2, 0, NO, 8, 73);
        x.get(0, 0);
        x.get(1, 1);
        x.call(0, 0, NO, NO);
        x.call(1, 1, 2, 1);
        x.make(1);
        x.drop(2);
        x.get(1, 2);
        x.meet(0, 1);
        return x;
    }

    private static Edits13 upTo120(Edits13 x) {
        for (int edits = x.count(3); edits < 120; edits++) x.set(0, edits);
        return x;
    }

    private static Edits13 peopled120() {
        return upTo120(peopled());
    }

    // Six classes of which one is above the next, and six faces of which one has the next.
    private static Edits13 chains() {
        Edits13 x = new Edits13();
        for (int t = 0; t < 12; t++) x.type(t >= 6, t == 0 || t >= 6 ? NO : t - 1, 0);
        for (int t = 6; t < 11; t++) x.face(t, t + 1);
        x.method(0, 0, NO, NO, 0, 1);
        return x;
    }

    private static Edits13 chains120() {
        return upTo120(chains());
    }

    private static Edits13 sixty() {
        Edits13 x = family();
        for (int n = 0; n < 10; n++) {
            for (int t = 0; t < 3; t++) {
                x.field(t, n, 4, 0, n);
                x.method(t, n, NO, NO, 0, n);
            }
        }
        x.make(0);
        return x;
    }

    private static Edits13 sixty120() {
        return upTo120(sixty());
    }

    private static Edits13 twentyFour() {
        Edits13 x = peopled();
        x.method(0, 5, 0, 1, 0, 1);
        x.method(0, 5, 1, 0, 0, 1);
        for (int c = 6; c < 24; c++) x.make(0);
        return x;
    }

    // ---- the edits

    private static void constants() {
        int[] got = {Edits13.BAD, Edits13.NONE, Edits13.FULL, Edits13.RING};
        for (int i = 0; i < 4; i++) {
            if (got[i] == -1 - i) continue;
            wrong++;
            System.out.println("constant " + i + " is " + got[i]);
        }
    }

    private static void types() {
        House house = RefusalsTest::peopled, chains = RefusalsTest::chains;
        bad("2 marks", house, x -> x.type(false, NO, -1), x -> x.type(false, NO, 4), x -> x.type(true, NO, 4));
        bad("2 above a face", house, x -> x.type(true, 0, 0), x -> x.type(true, 3, 0), x -> x.type(true, -1, 0));
        bad("2 above a class", house, x -> x.type(false, 3, 0), x -> x.type(false, 6, 0), x -> x.type(false, -1, 0));
        refused("2 twelve, class", chains, x -> x.type(false, NO, 0), FULL);
        refused("2 twelve, class below", chains, x -> x.type(false, 5, 3), FULL);
        refused("2 twelve, face", chains, x -> x.type(true, NO, 0), FULL);
        refused("2 120 edits", RefusalsTest::peopled120, x -> x.type(false, NO, 0), FULL);
        refused("2 120 edits, face", RefusalsTest::peopled120, x -> x.type(true, NO, 0), FULL);
        refused("2 twelve and 120 edits", RefusalsTest::chains120, x -> x.type(false, NO, 0), FULL);
        for (House full : new House[] {chains, RefusalsTest::peopled120, RefusalsTest::chains120}) {
            bad("2 bad ahead of full", full, x -> x.type(false, NO, 4), x -> x.type(true, 0, 0),
                x -> x.type(false, 12, 0), x -> x.type(false, -1, 0), x -> x.type(true, NO, -1));
        }
        bad("2 bad, a face above, ahead of full", chains, x -> x.type(false, 6, 0), x -> x.type(true, 6, 0));
    }

    private static void aboves() {
        House house = RefusalsTest::peopled, full = RefusalsTest::peopled120;
        bad("3 of a face", house, x -> x.above(3, NO), x -> x.above(3, 0), x -> x.above(3, 4));
        bad("3 a face above", house, x -> x.above(0, 3), x -> x.above(2, 5));
        bad("3 absent", house, x -> x.above(6, NO), x -> x.above(0, 6), x -> x.above(0, -1), x -> x.above(NO, 0));
        bad("3 bad ahead of ring", house, x -> x.above(3, 3), x -> x.above(6, 6), x -> x.above(-1, -1));
        refused("3 itself", house, x -> x.above(0, 0), RING);
        refused("3 itself, with another above", house, x -> x.above(2, 2), RING);
        refused("3 a ring of two", house, x -> x.above(0, 1), RING);
        refused("3 a ring of three", house, x -> x.above(0, 2), RING);
        refused("3 a ring of six", RefusalsTest::chains, x -> x.above(0, 5), RING);
        refused("3 a ring inside", RefusalsTest::chains, x -> x.above(2, 4), RING);
        refused("3 120 edits", full, x -> x.above(1, NO), FULL);
        refused("3 120 edits, nothing new", full, x -> x.above(1, 0), FULL);
        refused("3 ring ahead of 120 edits", full, x -> x.above(0, 0), RING);
        refused("3 ring ahead of 120 edits", full, x -> x.above(0, 2), RING);
        bad("3 bad ahead of 120 edits", full, x -> x.above(3, NO), x -> x.above(0, 3), x -> x.above(6, NO),
            x -> x.above(0, 6));
    }

    private static void faces() {
        House house = RefusalsTest::peopled, full = RefusalsTest::peopled120;
        bad("4 a class as a face", house, x -> x.face(0, 1), x -> x.face(3, 0), x -> x.face(5, 2));
        bad("4 absent", house, x -> x.face(0, 6), x -> x.face(6, 3), x -> x.face(0, NO), x -> x.face(-1, 3));
        bad("4 it has it", house, x -> x.face(3, 4));
        bad("4 it has it and three", house, x -> x.face(1, 3), x -> x.face(1, 5));
        bad("4 bad ahead of ring, a class itself", house, x -> x.face(0, 0), x -> x.face(2, 2));
        refused("4 itself", house, x -> x.face(3, 3), RING);
        refused("4 a ring of two", house, x -> x.face(4, 3), RING);
        refused("4 a ring of six", RefusalsTest::chains, x -> x.face(11, 6), RING);
        refused("4 a ring inside", RefusalsTest::chains, x -> x.face(9, 7), RING);
        House three = () -> {
            Edits13 x = family();
            for (int t = 6; t < 9; t++) x.type(true, NO, 0);
            x.face(3, 6);
            x.face(3, 7);
            return x;
        };
        bad("4 three", three, x -> x.face(3, 8), x -> x.face(1, 8));
        bad("4 three ahead of ring", three, x -> x.face(3, 3));
        refused("4 120 edits", full, x -> x.face(0, 3), FULL);
        refused("4 ring ahead of 120 edits", full, x -> x.face(4, 3), RING);
        refused("4 ring ahead of 120 edits", full, x -> x.face(5, 5), RING);
        bad("4 bad ahead of 120 edits", full, x -> x.face(3, 4), x -> x.face(1, 3), x -> x.face(0, 1),
            x -> x.face(0, 6));
    }

    private static void unfaces() {
        House house = RefusalsTest::peopled, full = RefusalsTest::peopled120;
        bad("5 no such face", house, x -> x.unface(1, 3), x -> x.unface(1, -1), x -> x.unface(3, 1),
            x -> x.unface(0, 0));
        bad("5 absent", house, x -> x.unface(6, 0), x -> x.unface(-1, 0), x -> x.unface(NO, 0));
        refused("5 120 edits", full, x -> x.unface(1, 0), FULL);
        bad("5 bad ahead of 120 edits", full, x -> x.unface(1, 3), x -> x.unface(0, 0), x -> x.unface(6, 0));
    }

    private static void typeMarks() {
        House house = RefusalsTest::peopled, full = RefusalsTest::peopled120;
        bad("6 marks", house, x -> x.marks(0, 4), x -> x.marks(0, -1), x -> x.marks(3, 4), x -> x.marks(3, -1));
        bad("6 absent", house, x -> x.marks(6, 0), x -> x.marks(-1, 0), x -> x.marks(NO, 0));
        refused("6 120 edits", full, x -> x.marks(0, 1), FULL);
        refused("6 120 edits, nothing new", full, x -> x.marks(2, 1), FULL);
        bad("6 bad ahead of 120 edits", full, x -> x.marks(0, 4), x -> x.marks(6, 0));
    }

    private static void fields() {
        House house = RefusalsTest::peopled;
        bad("7 numbers", house, x -> x.field(6, 0, 0, 1, 0), x -> x.field(0, 10, 0, 0, 0), x -> x.field(0, 8, 8, 0, 0),
            x -> x.field(0, 8, 0, 8, 0), x -> x.field(0, -1, 0, 0, 0), x -> x.field(0, 8, -1, 0, 0));
        bad("7 not static in a face", house, x -> x.field(3, 8, 0, 0, 0), x -> x.field(3, 8, 0, 6, 0));
        bad("7 one like it", house, x -> x.field(0, 0, 4, 0, 7), x -> x.field(0, 0, 7, 5, 1),
            x -> x.field(3, 3, 0, 1, 0));
        refused("7 sixty", RefusalsTest::sixty, x -> x.field(3, 8, 0, 1, 0), FULL);
        refused("7 120 edits", RefusalsTest::peopled120, x -> x.field(0, 8, 0, 0, 0), FULL);
        refused("7 sixty and 120 edits", RefusalsTest::sixty120, x -> x.field(3, 8, 0, 1, 0), FULL);
        for (House full : new House[] {RefusalsTest::sixty, RefusalsTest::peopled120, RefusalsTest::sixty120}) {
            bad("7 bad ahead of full", full, x -> x.field(6, 0, 0, 1, 0), x -> x.field(0, 10, 0, 0, 0),
                x -> x.field(4, 8, 8, 1, 0), x -> x.field(4, 8, 0, 9, 0), x -> x.field(4, 8, 0, 0, 0),
                x -> x.field(0, 0, 4, 0, 7));
        }
    }

    private static void methods() {
        House house = RefusalsTest::peopled;
        bad("8 numbers", house, x -> x.method(6, 0, NO, NO, 0, 0), x -> x.method(0, 10, NO, NO, 0, 0),
            x -> x.method(0, -1, NO, NO, 0, 0), x -> x.method(0, 8, 6, NO, 0, 0), x -> x.method(0, 8, 0, 6, 0, 0),
            x -> x.method(0, 8, NO, 0, 0, 0), x -> x.method(0, 8, -1, NO, 0, 0), x -> x.method(0, 8, 0, -1, 0, 0));
        bad("8 marks", house, x -> x.method(0, 8, NO, NO, 9, 0), x -> x.method(0, 8, NO, NO, 10, 0),
            x -> x.method(0, 8, NO, NO, 12, 0), x -> x.method(0, 8, NO, NO, 16, 0), x -> x.method(0, 8, NO, NO, -1, 0));
        bad("8 one like it", house, x -> x.method(0, 0, NO, NO, 0, 70), x -> x.method(0, 1, 0, 1, 8, 0),
            x -> x.method(3, 2, 0, NO, 1, 0));
        refused("8 sixty", RefusalsTest::sixty, x -> x.method(3, 8, NO, NO, 0, 0), FULL);
        refused("8 120 edits", RefusalsTest::peopled120, x -> x.method(0, 8, NO, NO, 0, 0), FULL);
        refused("8 sixty and 120 edits", RefusalsTest::sixty120, x -> x.method(3, 8, NO, NO, 0, 0), FULL);
        for (House full : new House[] {RefusalsTest::sixty, RefusalsTest::peopled120, RefusalsTest::sixty120}) {
            bad("8 bad ahead of full", full, x -> x.method(6, 0, NO, NO, 0, 0), x -> x.method(4, 10, NO, NO, 0, 0),
                x -> x.method(4, 8, 6, NO, 0, 0), x -> x.method(4, 8, NO, 0, 0, 0), x -> x.method(4, 8, NO, NO, 9, 0),
                x -> x.method(0, 0, NO, NO, 0, 70));
        }
    }

    private static void drops() {
        bad("9 absent", RefusalsTest::peopled, x -> x.drop(2), x -> x.drop(9), x -> x.drop(-1), x -> x.drop(60));
        refused("9 120 edits", RefusalsTest::peopled120, x -> x.drop(0), FULL);
        bad("9 bad ahead of 120 edits", RefusalsTest::peopled120, x -> x.drop(2), x -> x.drop(9), x -> x.drop(60));
    }

    private static void memberMarks() {
        House house = RefusalsTest::peopled, full = RefusalsTest::peopled120;
        bad("10 absent", house, x -> x.mark(2, 0), x -> x.mark(9, 0), x -> x.mark(-1, 0), x -> x.mark(60, 0));
        bad("10 of a field", house, x -> x.mark(0, 8), x -> x.mark(0, -1), x -> x.mark(4, 0), x -> x.mark(4, 6));
        bad("10 of a method", house, x -> x.mark(5, 9), x -> x.mark(5, 10), x -> x.mark(5, 12), x -> x.mark(5, 16));
        refused("10 120 edits", full, x -> x.mark(0, 1), FULL);
        refused("10 120 edits, nothing new", full, x -> x.mark(5, 0), FULL);
        bad("10 bad ahead of 120 edits", full, x -> x.mark(2, 0), x -> x.mark(0, 8), x -> x.mark(4, 0),
            x -> x.mark(5, 9));
    }

    private static void sets() {
        House full = RefusalsTest::peopled120;
        bad("11 absent", RefusalsTest::peopled, x -> x.set(2, 0), x -> x.set(9, 0), x -> x.set(-1, 0),
            x -> x.set(60, 0));
        refused("11 120 edits", full, x -> x.set(0, 1), FULL);
        refused("11 120 edits, a method", full, x -> x.set(5, 1), FULL);
        refused("11 120 edits, nothing new", full, x -> x.set(5, 70), FULL);
        bad("11 bad ahead of 120 edits", full, x -> x.set(2, 0), x -> x.set(9, 0), x -> x.set(60, 0));
    }

    private static void retypes() {
        House house = RefusalsTest::peopled, full = RefusalsTest::peopled120;
        bad("12 absent", house, x -> x.retype(2, 0, 0), x -> x.retype(9, 0, 0), x -> x.retype(-1, 0, 0));
        bad("12 a method", house, x -> x.retype(5, 4, 0), x -> x.retype(8, 0, 0));
        bad("12 a kind", house, x -> x.retype(0, 8, 1), x -> x.retype(0, -1, 1));
        refused("12 120 edits", full, x -> x.retype(0, 5, 1), FULL);
        bad("12 bad ahead of 120 edits", full, x -> x.retype(2, 0, 0), x -> x.retype(5, 4, 0), x -> x.retype(0, 8, 1));
    }

    private static void moves() {
        House full = RefusalsTest::peopled120;
        House house = () -> {
            Edits13 x = peopled();
            x.field(1, 0, 7, 0, 1);
            return x;
        };
        bad("13 absent", house, x -> x.move(9, 0), x -> x.move(10, 0), x -> x.move(-1, 0), x -> x.move(0, 6),
            x -> x.move(0, -1));
        bad("13 its own", house, x -> x.move(0, 0), x -> x.move(4, 3), x -> x.move(5, 0), x -> x.move(8, 3));
        bad("13 one like it", house, x -> x.move(0, 1), x -> x.move(2, 0), x -> x.move(5, 1), x -> x.move(7, 0));
        bad("13 a face gets a field that is not static", house, x -> x.move(0, 3), x -> x.move(0, 4));
        refused("13 120 edits, a field", full, x -> x.move(1, 3), FULL);
        refused("13 120 edits, a method", full, x -> x.move(5, 2), FULL);
        bad("13 bad ahead of 120 edits", full, x -> x.move(2, 0), x -> x.move(0, 6), x -> x.move(0, 0),
            x -> x.move(5, 1),
            x -> x.move(0, 3));
    }

    private static void undoes() {
        refused("14 nothing to take back", Edits13::new, x -> x.undo(), NO);
        House undone = () -> {
            Edits13 x = peopled();
            while (x.count(3) > 0) x.undo();
            return x;
        };
        refused("14 all taken back", undone, x -> x.undo(), NO);
    }

    // ---- the callers

    private static void gets() {
        House house = RefusalsTest::peopled;
        bad("15 numbers", house, x -> x.get(6, 0), x -> x.get(-1, 0), x -> x.get(NO, 0), x -> x.get(0, 10),
            x -> x.get(0, -1));
        refused("15 no such", house, x -> x.get(0, 8), NO_SUCH);
        refused("15 not in the one above", house, x -> x.get(0, 2), NO_SUCH);
        House hidden = () -> {
            Edits13 x = peopled();
            x.mark(0, 4);
            return x;
        };
        refused("15 hidden", hidden, x -> x.get(0, 0), NO_SUCH);
    }

    private static void calls() {
        House house = RefusalsTest::peopled;
        bad("16 numbers", house, x -> x.call(6, 0, NO, NO), x -> x.call(-1, 0, NO, NO), x -> x.call(0, 10, NO, NO),
            x -> x.call(0, -1, NO, NO), x -> x.call(0, 1, 6, 1), x -> x.call(0, 1, 0, 6), x -> x.call(0, 1, NO, 1));
        refused("16 no such name", house, x -> x.call(0, 8, NO, NO), NO_SUCH);
        refused("16 fewer arguments", house, x -> x.call(0, 1, 0, NO), NO_SUCH);
        refused("16 more arguments", house, x -> x.call(0, 0, 0, NO), NO_SUCH);
        refused("16 an argument above", house, x -> x.call(0, 1, 0, 0), NO_SUCH);
        House many = () -> {
            Edits13 x = peopled();
            x.method(1, 1, 1, 0, 0, 74);
            return x;
        };
        refused("16 many", many, x -> x.call(1, 1, 1, 1), MANY);
    }

    private static void makes() {
        House house = RefusalsTest::peopled;
        bad("17 numbers", house, x -> x.make(6), x -> x.make(-1), x -> x.make(NO), x -> x.make(12));
        refused("17 abstract", house, x -> x.make(2), NOT_MADE);
        refused("17 a face", house, x -> x.make(3), NOT_MADE);
    }

    private static void callersFull() {
        House full = RefusalsTest::twentyFour;
        refused("15 full", full, x -> x.get(0, 0), FULL);
        refused("16 full", full, x -> x.call(0, 0, NO, NO), FULL);
        refused("17 full", full, x -> x.make(0), FULL);
        refused("15 full ahead of no such", full, x -> x.get(0, 8), FULL);
        refused("16 full ahead of no such", full, x -> x.call(0, 8, NO, NO), FULL);
        refused("16 full ahead of many", full, x -> x.call(0, 5, 1, 1), FULL);
        refused("17 full ahead of hollow", full, x -> x.make(2), FULL);
        refused("17 full ahead of hollow", full, x -> x.make(3), FULL);
        bad("15 bad ahead of full", full, x -> x.get(6, 0), x -> x.get(0, 10));
        bad("16 bad ahead of full", full, x -> x.call(6, 0, NO, NO), x -> x.call(0, 10, NO, NO),
            x -> x.call(0, 1, NO, 1));
        bad("17 bad ahead of full", full, x -> x.make(6), x -> x.make(-1));
    }

    private static void meets() {
        House house = RefusalsTest::peopled;
        bad("18 no such caller", house, x -> x.meet(6, 0), x -> x.meet(-1, 0), x -> x.meet(24, 0), x -> x.meet(6, 6));
        // Each sort of caller, whether it looks at r or not.
        for (int caller = 0; caller < 6; caller++) {
            int c = caller;
            bad("18 r is no class", house, x -> x.meet(c, 3), x -> x.meet(c, 6), x -> x.meet(c, -1),
                x -> x.meet(c, NO));
        }
        // The type that callers 1, 3, 4 and 5 name is no more.
        House gone = () -> {
            Edits13 x = peopled();
            while (x.count(3) > 1) x.undo();
            return x;
        };
        for (int caller : new int[] {1, 3, 4, 5}) {
            refused("18 lost", gone, x -> x.meet(caller, 0), LOST);
            bad("18 bad ahead of lost", gone, x -> x.meet(caller, 1), x -> x.meet(caller, -1));
        }
    }

    // A house in which each of the failures is met by a caller, told by its number.
    private static void failures() {
        House barred = () -> {
            Edits13 x = peopled();
            x.marks(0, 2);
            return x;
        };
        refused("18 barred", barred, x -> x.meet(4, 0), BARRED);
        House broken = () -> {
            Edits13 x = peopled();
            x.mark(5, 2);
            return x;
        };
        refused("18 broken", broken, x -> x.meet(4, 0), BROKEN);
        refused("18 broken, r", broken, x -> x.meet(2, 1), BROKEN);
        House dropped = () -> {
            Edits13 x = peopled();
            x.drop(0);
            return x;
        };
        refused("18 lost", dropped, x -> x.meet(0, 0), LOST);
        House closed = () -> {
            Edits13 x = peopled();
            x.mark(0, 4);
            return x;
        };
        refused("18 closed", closed, x -> x.meet(0, 0), CLOSED);
        House changed = () -> {
            Edits13 x = peopled();
            x.mark(0, 1);
            return x;
        };
        refused("18 changed", changed, x -> x.meet(0, 0), CHANGED);
        refused("18 unlike", RefusalsTest::peopled, x -> x.meet(3, 0), UNLIKE);
        House retyped = () -> {
            Edits13 x = peopled();
            x.retype(0, 5, 7);
            return x;
        };
        refused("18 cast", retyped, x -> x.meet(0, 0), CAST);
        House empty = () -> {
            Edits13 x = peopled();
            x.mark(7, 8);
            return x;
        };
        refused("18 empty", empty, x -> x.meet(2, 1), EMPTY);
        House hollow = () -> {
            Edits13 x = peopled();
            x.marks(1, 1);
            return x;
        };
        refused("18 hollow", hollow, x -> x.meet(4, 0), HOLLOW);
        refused("20 hollow", hollow, x -> x.anew(4, 0), NOT_MADE);
        refused("20 barred", barred, x -> x.anew(4, 0), BARRED);
        refused("20 unlike", RefusalsTest::peopled, x -> x.anew(3, 0), UNLIKE);
        refused("20 no such", dropped, x -> x.anew(0, 0), NO_SUCH);
        House manyNow = () -> {
            Edits13 x = peopled();
            x.method(1, 1, 1, 0, 0, 74);
            return x;
        };
        refused("20 many", manyNow, x -> x.anew(3, 1), MANY);
        House allAtOnce = () -> {
            Edits13 x = peopled();
            x.drop(0);
            x.drop(3);
            x.marks(0, 2);
            return x;
        };
        refused("20 a fault ahead of a failure", allAtOnce, x -> x.anew(5, 0), NO_SUCH);
        refused("18 where there is no fault", allAtOnce, x -> x.meet(5, 0), BARRED);
    }

    private static void anews() {
        House house = RefusalsTest::peopled;
        bad("20 no such caller", house, x -> x.anew(6, 0), x -> x.anew(-1, 0), x -> x.anew(24, 0), x -> x.anew(6, 6));
        for (int caller = 0; caller < 6; caller++) {
            int c = caller;
            bad("20 r is no class", house, x -> x.anew(c, 3), x -> x.anew(c, 6), x -> x.anew(c, -1),
                x -> x.anew(c, NO));
        }
        // Only types 0 and 1 are left, and no members: an argument of caller 3 is no more.
        House gone = () -> {
            Edits13 x = peopled();
            while (x.count(3) > 2) x.undo();
            return x;
        };
        refused("20 an argument is no more, ahead of no such", gone, x -> x.anew(3, 0), NO);
        refused("20 no such, where all named are there", gone, x -> x.anew(0, 0), NO_SUCH);
        House less = () -> {
            Edits13 x = gone.built();
            x.undo();
            return x;
        };
        refused("20 t is no more", less, x -> x.anew(4, 0), NO);
        refused("20 t is no more, of one that keeps a value", less, x -> x.anew(1, 0), NO);
        bad("20 bad ahead of none", less, x -> x.anew(4, 1), x -> x.anew(3, -1), x -> x.anew(6, 0));
    }

    private static void culprits() {
        House house = RefusalsTest::peopled;
        bad("21 no such caller", house, x -> x.culprit(6, 0), x -> x.culprit(-1, 0), x -> x.culprit(24, 0));
        for (int caller = 0; caller < 6; caller++) {
            int c = caller;
            bad("21 r is no class", house, x -> x.culprit(c, 3), x -> x.culprit(c, 6), x -> x.culprit(c, -1));
        }
        House later = () -> {
            Edits13 x = peopled();
            x.type(false, NO, 0);
            return x;
        };
        bad("21 r was no class then", later, x -> x.culprit(0, 6), x -> x.culprit(4, 6));
        House fewer = () -> {
            Edits13 x = peopled();
            x.undo();
            x.undo();
            return x;
        };
        refused("21 fewer edits", fewer, x -> x.culprit(0, 0), NO);
        refused("21 fewer edits", fewer, x -> x.culprit(5, 0), NO);
        bad("21 bad ahead of none", fewer, x -> x.culprit(0, 3), x -> x.culprit(0, 6), x -> x.culprit(6, 0));
        House asMany = () -> {
            Edits13 x = peopled();
            x.undo();
            return x;
        };
        refused("21 as many edits, nothing behind them", asMany, x -> x.culprit(0, 0), 0);
        refused("21 no edit behind them matters", house, x -> x.culprit(0, 0), 0);
    }

    // ---- what there is

    private static void tellings() {
        House house = RefusalsTest::peopled;
        bad("22", house, x -> x.caller(6, 0), x -> x.caller(-1, 0), x -> x.caller(0, 7), x -> x.caller(0, -1));
        bad("23", house, x -> x.told(6, 0), x -> x.told(-1, 0), x -> x.told(0, 7), x -> x.told(0, -1));
        bad("24", house, x -> x.below(6, 0), x -> x.below(0, 6), x -> x.below(-1, 0), x -> x.below(0, NO));
        bad("25", house, x -> x.member(2, 0), x -> x.member(9, 0), x -> x.member(0, 6), x -> x.member(0, -1));
        bad("26", house, x -> x.selected(3, 5), x -> x.selected(6, 5), x -> x.selected(0, 0), x -> x.selected(0, 2),
            x -> x.selected(0, 9), x -> x.selected(-1, 5));
        bad("27", house, x -> x.count(4), x -> x.count(-1));
        House clash = () -> {
            Edits13 x = peopled();
            x.method(4, 6, NO, NO, 0, 1);
            x.method(5, 6, NO, NO, 0, 2);
            return x;
        };
        refused("26 nothing", house, x -> x.selected(0, 8), NO);
        refused("26 abstract", house, x -> x.selected(1, 8), NO);
        refused("26 clash", clash, x -> x.selected(1, 2), RING);
    }
}
