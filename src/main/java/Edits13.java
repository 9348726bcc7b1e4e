/** A house of types that are edited while old callers stay as they were made. */
public final class Edits13 {
    public static final int BAD = -1, NONE = -2, FULL = -3, RING = -4;

    private static final int MOST_TYPES = 12;
    private static final int MOST_FACES = 3;
    private static final int MOST_MEMBERS = 60;
    private static final int MOST_CALLERS = 24;
    private static final int MOST_EDITS = 120;
    private static final int NAMES = 10;

    private static final int TYPE_ABSTRACT = 1, TYPE_FINAL = 2, ALL_TYPE_MARKS = 3;
    private static final int STATIC = 1, FINAL = 2, HIDDEN = 4, ABSTRACT = 8, ALL_FIELD_MARKS = 7;

    private static final int TRUTHS = 0, BYTES = 1, CHARS = 2, SHORTS = 3, INTS = 4, FLOATS = 6, DOUBLES = 7;

    private static final int GET = 0, CALL = 1, NEW = 2;

    private static final int FAULTS = -10, FAILURES = -30;
    private static final int NO_SUCH = 1, MANY = 2, NOT_TO_BE_MADE = 3;
    private static final int BARRED = 1, BROKEN = 2, LOST = 3, CLOSED = 4, CHANGED = 5;
    private static final int UNLIKE = 6, CAST = 7, EMPTY = 8, HOLLOW = 9;

    private static final int TYPE_COMES = 0, ABOVE_BECOMES = 1, FACE_COMES = 2, FACE_GOES = 3, TYPE_MARKS = 4;
    private static final int FIELD_COMES = 5, METHOD_COMES = 6, MEMBER_GOES = 7, MEMBER_MARKS = 8;
    private static final int VALUE_BECOMES = 9, KIND_BECOMES = 10, MEMBER_MOVES = 11;

    private final House now = new House();
    // A second house, in which EDITS are done again while the first one stays as it is.
    private final House again = new House();
    private final Edit[] log = new Edit[MOST_EDITS];
    private int edits = 0;
    private final Caller[] callers = new Caller[MOST_CALLERS];
    private int made = 0;
    // Filled by a making; it becomes one of the CALLERS only if there was no FAULT.
    private Caller draft = new Caller();
    private long lastAsked = 0L;

    public Edits13() {
    }

    // ---- edits

    public int type(boolean face, int above, int marks) {
        if (!isTypeMarks(marks)) return BAD;
        if (above != NONE && (face || !now.types.isClass(above))) return BAD;
        if (now.types.size >= MOST_TYPES) return FULL;
        return take(TYPE_COMES, face ? 1 : 0, above, marks, 0, 0, 0L);
    }

    public int above(int type, int above) {
        if (!now.types.isClass(type)) return BAD;
        if (above != NONE && !now.types.isClass(above)) return BAD;
        if (above != NONE && now.types.isBelow(above, type)) return RING;
        return take(ABOVE_BECOMES, type, above, 0, 0, 0, 0L);
    }

    public int face(int type, int face) {
        if (!now.types.isType(type) || !now.types.isFaceType(face)) return BAD;
        if (now.types.faceCountOf(type) >= MOST_FACES || now.types.hasFace(type, face)) return BAD;
        if (now.types.isBelow(face, type)) return RING;
        return take(FACE_COMES, type, face, 0, 0, 0, 0L);
    }

    public int unface(int type, int i) {
        if (i < 0 || i >= now.types.faceCountOf(type)) return BAD;
        return take(FACE_GOES, type, i, 0, 0, 0, 0L);
    }

    public int marks(int type, int m) {
        if (!now.types.isType(type) || !isTypeMarks(m)) return BAD;
        return take(TYPE_MARKS, type, m, 0, 0, 0, 0L);
    }

    public int field(int type, int name, int kind, int marks, long v) {
        if (!now.types.isType(type) || !isName(name) || !isKind(kind)) return BAD;
        if (!now.fieldMayBear(marks, type) || now.members.fieldOf(type, name) != NONE) return BAD;
        if (now.members.size >= MOST_MEMBERS) return FULL;
        return take(FIELD_COMES, type, name, kind, marks, 0, v);
    }

    public int method(int type, int name, int a, int b, int marks, int v) {
        if (!now.types.isType(type) || !isName(name) || !now.areParameters(a, b)) return BAD;
        if (!isMethodMarks(marks) || now.members.methodOf(type, name, a, b) != NONE) return BAD;
        if (now.members.size >= MOST_MEMBERS) return FULL;
        return take(METHOD_COMES, type, name, a, b, marks, (long) v);
    }

    public int drop(int member) {
        if (!now.members.isMember(member)) return BAD;
        return take(MEMBER_GOES, member, 0, 0, 0, 0, 0L);
    }

    public int mark(int member, int m) {
        if (!now.members.isMember(member)) return BAD;
        boolean good = now.members.isMethod(member)
            ? isMethodMarks(m) : now.fieldMayBear(m, now.members.ownerOf(member));
        if (!good) return BAD;
        return take(MEMBER_MARKS, member, m, 0, 0, 0, 0L);
    }

    public int set(int member, long v) {
        if (!now.members.isMember(member)) return BAD;
        return take(VALUE_BECOMES, member, 0, 0, 0, 0, v);
    }

    public int retype(int field, int kind, long v) {
        if (!now.members.isField(field) || !isKind(kind)) return BAD;
        return take(KIND_BECOMES, field, kind, 0, 0, 0, v);
    }

    public int move(int member, int type) {
        if (!now.members.isMember(member) || !now.types.isType(type)) return BAD;
        // Its own TYPE has one LIKE it, namely itself, and is refused by the same test.
        if (now.members.likeIn(type, member) != NONE) return BAD;
        if (now.members.isField(member) && !now.fieldMayBear(now.members.marksOf(member), type)) return BAD;
        return take(MEMBER_MOVES, member, type, 0, 0, 0, 0L);
    }

    public int undo() {
        if (edits <= 0) return NONE;
        edits--;
        log[edits] = null;
        redo(now, edits);
        return edits;
    }

    // ---- callers

    public int get(int type, int name) {
        if (!now.types.isType(type) || !isName(name)) return BAD;
        draft.names(GET, type, name, NONE, NONE);
        return keep(now.bind(draft));
    }

    public int call(int type, int name, int a, int b) {
        if (!now.types.isType(type) || !isName(name) || !now.areParameters(a, b)) return BAD;
        draft.names(CALL, type, name, a, b);
        return keep(now.bind(draft));
    }

    public int make(int type) {
        if (!now.types.isType(type)) return BAD;
        draft.names(NEW, type, NONE, NONE, NONE);
        return keep(now.bind(draft));
    }

    public int meet(int caller, int r) {
        Caller c = callerAt(caller);
        if (c == null || !now.types.isClass(r)) return BAD;
        return answer(now.meets(c, r));
    }

    public long asked() {
        return lastAsked;
    }

    public int anew(int caller, int r) {
        Caller c = callerAt(caller);
        if (c == null || !now.types.isClass(r)) return BAD;
        if (!now.types.isType(c.type) || !now.areParameters(c.firstArgument, c.secondArgument)) return NONE;
        draft.names(c.sort, c.type, c.name, c.firstArgument, c.secondArgument);
        int fault = now.bind(draft);
        if (fault != 0) return FAULTS - fault;
        return answer(now.meets(draft, r));
    }

    public int culprit(int caller, int r) {
        Caller c = callerAt(caller);
        if (c == null || !now.types.isClass(r)) return BAD;
        if (edits < c.editsThen) return NONE;
        redo(again, c.editsThen);
        if (!again.types.isClass(r)) return BAD;
        int failure = again.meets(c, r);
        long met = again.met;
        for (int i = c.editsThen; i < edits && i < MOST_EDITS; i++) {
            again.apply(log[i]);
            if (!again.types.isClass(r)) return i + 1;
            if (again.meets(c, r) != failure || again.met != met) return i + 1;
        }
        return 0;
    }

    public int caller(int caller, int what) {
        Caller c = callerAt(caller);
        if (c == null) return BAD;
        switch (what) {
            case 0: return c.sort;
            case 1: return c.type;
            case 2: return c.name;
            case 3: return c.first;
            case 4: return c.second;
            case 5: return c.keeps ? 1 : 0;
            case 6: return c.editsThen;
            default: return BAD;
        }
    }

    // ---- what there is

    public int told(int type, int what) {
        return now.types.tell(type, what);
    }

    public int below(int type, int other) {
        if (!now.types.isType(type) || !now.types.isType(other)) return BAD;
        return now.types.isBelow(type, other) ? 1 : 0;
    }

    public int member(int m, int what) {
        return now.members.tell(m, what);
    }

    public int selected(int type, int method) {
        Members all = now.members;
        if (!now.types.isClass(type) || !all.isMethod(method)) return BAD;
        return now.select(type, all.nameOf(method), all.firstOf(method), all.secondOf(method));
    }

    public int count(int what) {
        switch (what) {
            case 0: return now.types.size;
            case 1: return now.members.size;
            case 2: return made;
            case 3: return edits;
            default: return BAD;
        }
    }

    public long digest() {
        long h = now.members.addTo(now.types.addTo(17L));
        return 31L * h + edits;
    }

    // ---- what they share

    private static boolean isName(int name) {
        return name >= 0 && name < NAMES;
    }

    private static boolean isKind(int kind) {
        return kind >= TRUTHS && kind <= DOUBLES;
    }

    private static boolean isTypeMarks(int marks) {
        return marks >= 0 && marks <= ALL_TYPE_MARKS;
    }

    private static boolean isFieldMarks(int marks) {
        return marks >= 0 && marks <= ALL_FIELD_MARKS;
    }

    /** ABSTRACT goes with no other mark, so it stands alone or not at all. */
    private static boolean isMethodMarks(int marks) {
        return isFieldMarks(marks) || marks == ABSTRACT;
    }

    private static boolean widens(int from, int to) {
        if (from == to) return true;
        if (to == SHORTS) return from == BYTES;
        return to >= INTS && from >= BYTES && from < to;
    }

    /** A value that comes out as a KIND, told as a long; told so, no KIND loses any of it. */
    private static long asKind(int kind, long v) {
        switch (kind) {
            case TRUTHS: return v != 0L ? 1L : 0L;
            case BYTES: return (long) (byte) v;
            case CHARS: return (long) (char) v;
            case SHORTS: return (long) (short) v;
            case INTS: return (long) (int) v;
            case FLOATS: return (long) (float) v;
            case DOUBLES: return (long) (double) v;
            default: return v;
        }
    }

    /** The limit of EDITS is looked at here, behind all other refusals. */
    private int take(int deed, int a, int b, int c, int d, int e, long v) {
        if (edits < 0 || edits >= MOST_EDITS) return FULL;
        Edit edit = new Edit(deed, a, b, c, d, e, v);
        log[edits] = edit;
        edits++;
        return now.apply(edit);
    }

    private void redo(House house, int howMany) {
        house.clear();
        for (int i = 0; i < howMany && i < MOST_EDITS; i++) house.apply(log[i]);
    }

    private Caller callerAt(int caller) {
        if (caller < 0 || caller >= made || caller >= MOST_CALLERS) return null;
        return callers[caller];
    }

    /** Keeps the draft as a CALLER, unless its making had a FAULT. */
    private int keep(int fault) {
        if (made >= MOST_CALLERS) return FULL;
        if (fault != 0) return FAULTS - fault;
        draft.editsThen = edits;
        callers[made] = draft;
        draft = new Caller();
        made++;
        return made - 1;
    }

    /** A FAILURE is a refusal, so what was ASKED for before it stays. */
    private int answer(int failure) {
        if (failure != 0) return FAILURES - failure;
        lastAsked = now.met;
        return 0;
    }

    /** An EDIT with its numbers, in the order in which its call takes them. */
    private static final class Edit {
        final int deed;
        final int a;
        final int b;
        final int c;
        final int d;
        final int e;
        final long v;

        Edit(int deed, int a, int b, int c, int d, int e, long v) {
            this.deed = deed;
            this.a = a;
            this.b = b;
            this.c = c;
            this.d = d;
            this.e = e;
            this.v = v;
        }
    }

    /** What a CALLER named when it was made, and what it keeps of what it found. */
    private static final class Caller {
        int sort;
        int type;
        int name;
        int firstArgument;
        int secondArgument;
        int first;
        int second;
        int kind;
        boolean ofStatic;
        boolean ofFace;
        boolean keeps;
        long kept;
        int editsThen;

        void names(int sortNamed, int typeNamed, int nameNamed, int a, int b) {
            sort = sortNamed;
            type = typeNamed;
            name = nameNamed;
            firstArgument = a;
            secondArgument = b;
            first = NONE;
            second = NONE;
            kind = TRUTHS;
            ofStatic = false;
            ofFace = false;
            keeps = false;
            kept = 0L;
            editsThen = 0;
        }
    }

    /** The TYPES and how they stand to each other. A set of TYPES is an int with a bit for each. */
    private static final class Types {
        int size = 0;
        private final boolean[] isFace = new boolean[MOST_TYPES];
        private final int[] parent = new int[MOST_TYPES];
        private final int[] marks = new int[MOST_TYPES];
        private final int[] faceCount = new int[MOST_TYPES];
        private final int[] faces = new int[MOST_TYPES * MOST_FACES];
        // For each TYPE the set of those that it is BELOW.
        private final int[] reach = new int[MOST_TYPES];

        static boolean holds(int set, int type) {
            return (set >> type & 1) != 0;
        }

        boolean isType(int t) {
            return t >= 0 && t < size;
        }

        boolean isClass(int t) {
            return isType(t) && !isFace[t];
        }

        boolean isFaceType(int t) {
            return isType(t) && isFace[t];
        }

        boolean isBelow(int t, int other) {
            return isType(t) && isType(other) && holds(reach[t], other);
        }

        boolean isAbstract(int t) {
            return isClass(t) && (marks[t] & TYPE_ABSTRACT) != 0;
        }

        boolean isFinal(int t) {
            return isType(t) && (marks[t] & TYPE_FINAL) != 0;
        }

        int aboveOf(int t) {
            return isType(t) ? parent[t] : NONE;
        }

        private int reachOf(int t) {
            return isType(t) ? reach[t] : 0;
        }

        int faceCountOf(int t) {
            return isType(t) ? faceCount[t] : 0;
        }

        int faceAt(int t, int i) {
            return isType(t) && i >= 0 && i < faceCount[t] ? faces[t * MOST_FACES + i] : NONE;
        }

        boolean hasFace(int t, int face) {
            for (int i = 0; i < MOST_FACES; i++) {
                if (faceAt(t, i) == face) return true;
            }
            return false;
        }

        int add(boolean face, int above, int itsMarks) {
            int t = size;
            if (t >= MOST_TYPES) return FULL;
            isFace[t] = face;
            parent[t] = above;
            marks[t] = itsMarks;
            faceCount[t] = 0;
            size++;
            reachAnew();
            return t;
        }

        int putAbove(int t, int above) {
            if (!isType(t)) return BAD;
            parent[t] = above;
            reachAnew();
            return 1;
        }

        int addFace(int t, int face) {
            if (!isType(t) || faceCount[t] >= MOST_FACES) return BAD;
            faces[t * MOST_FACES + faceCount[t]] = face;
            faceCount[t]++;
            reachAnew();
            return faceCount[t];
        }

        int takeFace(int t, int i) {
            if (!isType(t) || i < 0 || i >= faceCount[t]) return BAD;
            for (int k = i; k + 1 < faceCount[t]; k++) {
                faces[t * MOST_FACES + k] = faces[t * MOST_FACES + k + 1];
            }
            faceCount[t]--;
            reachAnew();
            return faceCount[t];
        }

        int remark(int t, int itsMarks) {
            if (!isType(t)) return BAD;
            int before = marks[t];
            marks[t] = itsMarks;
            return before;
        }

        /** No way from TYPE to TYPE is longer than there are TYPES, so that many rounds reach all. */
        private void reachAnew() {
            for (int t = 0; t < size; t++) reach[t] = 1 << t;
            boolean more = true;
            for (int round = 0; round < MOST_TYPES && more; round++) {
                more = false;
                for (int t = 0; t < size; t++) {
                    int wider = reach[t] | reachOfNext(t);
                    if (wider != reach[t]) more = true;
                    reach[t] = wider;
                }
            }
        }

        private int reachOfNext(int t) {
            int set = reachOf(aboveOf(t));
            for (int i = 0; i < MOST_FACES; i++) set |= reachOf(faceAt(t, i));
            return set;
        }

        /**
         * The first of the holders that is found when one LOOKS in a TYPE, or NONE.
         * A way that leads to no holder is never gone, so no step has to be taken back.
         */
        int firstHolder(int t, int holders, boolean facesFirst) {
            int at = t;
            for (int step = 0; step < MOST_TYPES && at != NONE; step++) {
                if (holds(holders, at)) return at;
                int up = wayUp(at, holders);
                int aside = wayAside(at, holders);
                if (facesFirst) at = aside != NONE ? aside : up;
                else at = up != NONE ? up : aside;
            }
            return NONE;
        }

        private int wayUp(int t, int holders) {
            int up = aboveOf(t);
            return (reachOf(up) & holders) != 0 ? up : NONE;
        }

        private int wayAside(int t, int holders) {
            for (int i = 0; i < MOST_FACES; i++) {
                int face = faceAt(t, i);
                if ((reachOf(face) & holders) != 0) return face;
            }
            return NONE;
        }

        /** The first of the holders among a CLASS and those above it, or NONE. */
        int firstClass(int t, int holders) {
            int at = t;
            for (int step = 0; step < MOST_TYPES && at != NONE; step++) {
                if (holds(holders, at)) return at;
                at = aboveOf(at);
            }
            return NONE;
        }

        /** The FACES among the holders that a CLASS is BELOW, without those that another one of them is BELOW. */
        int nearestFaces(int t, int holders) {
            int all = reachOf(t) & holders;
            int nearest = all;
            for (int f = 0; f < size; f++) {
                if (!isFace[f]) nearest &= ~(1 << f);
                else if (holds(all, f)) nearest &= ~reach[f] | 1 << f;
            }
            return nearest;
        }

        int tell(int t, int what) {
            if (!isType(t)) return BAD;
            switch (what) {
                case 0: return isFace[t] ? 1 : 0;
                case 1: return parent[t];
                case 2: return marks[t];
                case 3: return faceCount[t];
                case 4: return faceAt(t, 0);
                case 5: return faceAt(t, 1);
                case 6: return faceAt(t, 2);
                default: return BAD;
            }
        }

        long addTo(long h) {
            long sum = h;
            for (int t = 0; t < size; t++) {
                for (int what = 0; what <= 6; what++) sum = 31L * sum + tell(t, what);
            }
            return sum;
        }
    }

    /** The MEMBERS by their numbers; a number is free while it has no owner. */
    private static final class Members {
        int size = 0;
        private final int[] owner = new int[MOST_MEMBERS];
        private final boolean[] methodAt = new boolean[MOST_MEMBERS];
        private final int[] name = new int[MOST_MEMBERS];
        private final int[] marks = new int[MOST_MEMBERS];
        // The KIND of a FIELD or the first PARAMETER of a METHOD, as member() tells them.
        private final int[] first = new int[MOST_MEMBERS];
        private final int[] second = new int[MOST_MEMBERS];
        private final long[] value = new long[MOST_MEMBERS];

        Members() {
            clear();
        }

        void clear() {
            size = 0;
            for (int m = 0; m < MOST_MEMBERS; m++) owner[m] = NONE;
        }

        boolean isMember(int m) {
            return m >= 0 && m < MOST_MEMBERS && owner[m] != NONE;
        }

        int ownerOf(int m) {
            return isMember(m) ? owner[m] : NONE;
        }

        int nameOf(int m) {
            return isMember(m) ? name[m] : NONE;
        }

        int marksOf(int m) {
            return isMember(m) ? marks[m] : 0;
        }

        int firstOf(int m) {
            return isMember(m) ? first[m] : NONE;
        }

        int secondOf(int m) {
            return isMember(m) ? second[m] : NONE;
        }

        long valueOf(int m) {
            return isMember(m) ? value[m] : 0L;
        }

        boolean isField(int m) {
            return isMember(m) && !methodAt[m];
        }

        boolean isMethod(int m) {
            return isMember(m) && methodAt[m];
        }

        boolean bears(int m, int anyOf) {
            return isMember(m) && (marks[m] & anyOf) != 0;
        }

        /** Whether a METHOD is one that overrides and is overridden. */
        boolean isOpen(int m) {
            return isMember(m) && methodAt[m] && (marks[m] & (STATIC | HIDDEN)) == 0;
        }

        private boolean isFieldNamed(int m, int itsName) {
            return isMember(m) && !methodAt[m] && name[m] == itsName;
        }

        private boolean isMethodLike(int m, int itsName, int a, int b) {
            return isMember(m) && methodAt[m] && name[m] == itsName && first[m] == a && second[m] == b;
        }

        int fieldOf(int type, int itsName) {
            for (int m = 0; m < MOST_MEMBERS; m++) {
                if (owner[m] == type && isFieldNamed(m, itsName)) return m;
            }
            return NONE;
        }

        int methodOf(int type, int itsName, int a, int b) {
            for (int m = 0; m < MOST_MEMBERS; m++) {
                if (owner[m] == type && isMethodLike(m, itsName, a, b)) return m;
            }
            return NONE;
        }

        boolean hasOpenLike(int type, int method) {
            if (!isMethod(method)) return false;
            for (int m = 0; m < MOST_MEMBERS; m++) {
                if (owner[m] != type || !isMethodLike(m, name[method], first[method], second[method])) continue;
                return isOpen(m);
            }
            return false;
        }

        int likeIn(int type, int m) {
            if (!isMember(m)) return NONE;
            return methodAt[m] ? methodOf(type, name[m], first[m], second[m]) : fieldOf(type, name[m]);
        }

        /** The set of TYPES that have a FIELD of a NAME with none of the marks passed over. */
        int fieldHolders(int itsName, int passedOver) {
            int set = 0;
            for (int m = 0; m < MOST_MEMBERS; m++) {
                if (isFieldNamed(m, itsName) && !bears(m, passedOver)) set |= 1 << owner[m];
            }
            return set;
        }

        /** The set of TYPES that have such a METHOD with none of the marks passed over. */
        int methodHolders(int itsName, int a, int b, int passedOver) {
            int set = 0;
            for (int m = 0; m < MOST_MEMBERS; m++) {
                if (isMethodLike(m, itsName, a, b) && !bears(m, passedOver)) set |= 1 << owner[m];
            }
            return set;
        }

        int addField(int type, int itsName, int kind, int itsMarks, long v) {
            return add(false, type, itsName, kind, NONE, itsMarks, asKind(kind, v));
        }

        int addMethod(int type, int itsName, int a, int b, int itsMarks, long v) {
            return add(true, type, itsName, a, b, itsMarks, asKind(INTS, v));
        }

        private int add(boolean method, int type, int itsName, int a, int b, int itsMarks, long v) {
            for (int m = 0; m < MOST_MEMBERS; m++) {
                if (owner[m] != NONE) continue;
                owner[m] = type;
                methodAt[m] = method;
                name[m] = itsName;
                first[m] = a;
                second[m] = b;
                marks[m] = itsMarks;
                value[m] = v;
                size++;
                return m;
            }
            return FULL;
        }

        int free(int m) {
            if (!isMember(m)) return BAD;
            owner[m] = NONE;
            size--;
            return 1;
        }

        int remark(int m, int itsMarks) {
            if (!isMember(m)) return BAD;
            int before = marks[m];
            marks[m] = itsMarks;
            return before;
        }

        int putValue(int m, long v) {
            if (!isMember(m)) return BAD;
            value[m] = asKind(methodAt[m] ? INTS : first[m], v);
            return 1;
        }

        int putKind(int m, int kind, long v) {
            if (!isField(m)) return BAD;
            first[m] = kind;
            return putValue(m, v);
        }

        int putOwner(int m, int type) {
            if (!isMember(m)) return BAD;
            owner[m] = type;
            return 1;
        }

        int tell(int m, int what) {
            if (!isMember(m)) return BAD;
            switch (what) {
                case 0: return methodAt[m] ? 1 : 0;
                case 1: return owner[m];
                case 2: return name[m];
                case 3: return marks[m];
                case 4: return first[m];
                case 5: return second[m];
                default: return BAD;
            }
        }

        long addTo(long h) {
            long sum = h;
            for (int m = 0; m < MOST_MEMBERS; m++) {
                if (!isMember(m)) continue;
                sum = 31L * sum + m;
                for (int what = 0; what <= 5; what++) sum = 31L * sum + tell(m, what);
                sum = 31L * sum + value[m];
            }
            return sum;
        }
    }

    /** TYPES with their MEMBERS behind some EDITS: what CALLERS are made against, and what they MEET. */
    private static final class House {
        final Types types = new Types();
        final Members members = new Members();
        // What was met last, told as a long; 0 where that was a FAILURE.
        long met = 0L;
        private final int[] fitting = new int[MOST_MEMBERS];

        void clear() {
            types.size = 0;
            members.clear();
        }

        /** An EDIT was looked at when it came: done again behind the same EDITS, it is as good as then. */
        int apply(Edit x) {
            if (x == null) return BAD;
            switch (x.deed) {
                case TYPE_COMES: return types.add(x.a != 0, x.b, x.c);
                case ABOVE_BECOMES: return types.putAbove(x.a, x.b);
                case FACE_COMES: return types.addFace(x.a, x.b);
                case FACE_GOES: return types.takeFace(x.a, x.b);
                case TYPE_MARKS: return types.remark(x.a, x.b);
                case FIELD_COMES: return members.addField(x.a, x.b, x.c, x.d, x.v);
                case METHOD_COMES: return members.addMethod(x.a, x.b, x.c, x.d, x.e, x.v);
                case MEMBER_GOES: return members.free(x.a);
                case MEMBER_MARKS: return members.remark(x.a, x.b);
                case VALUE_BECOMES: return members.putValue(x.a, x.v);
                case KIND_BECOMES: return members.putKind(x.a, x.b, x.v);
                case MEMBER_MOVES: return members.putOwner(x.a, x.b);
                default: return BAD;
            }
        }

        boolean fieldMayBear(int marks, int type) {
            return isFieldMarks(marks) && (!types.isFaceType(type) || (marks & STATIC) != 0);
        }

        boolean areParameters(int a, int b) {
            if (a == NONE) return b == NONE;
            return types.isType(a) && (b == NONE || types.isType(b));
        }

        private int lookForField(int type, int name, int passedOver) {
            int holder = types.firstHolder(type, members.fieldHolders(name, passedOver), true);
            return holder == NONE ? NONE : members.fieldOf(holder, name);
        }

        private int lookForMethod(int type, int name, int a, int b) {
            int holder = types.firstHolder(type, members.methodHolders(name, a, b, 0), false);
            return holder == NONE ? NONE : members.methodOf(holder, name, a, b);
        }

        /** The METHOD that is SELECTED for a CLASS; NONE: nothing, or it is ABSTRACT; RING: it CLASHES. */
        int select(int type, int name, int a, int b) {
            int holders = members.methodHolders(name, a, b, STATIC | HIDDEN);
            int holder = types.firstClass(type, holders);
            if (holder != NONE) {
                int m = members.methodOf(holder, name, a, b);
                return m == NONE || members.bears(m, ABSTRACT) ? NONE : m;
            }
            int nearest = types.nearestFaces(type, holders);
            int found = NONE;
            for (int f = 0; f < types.size; f++) {
                int m = Types.holds(nearest, f) ? members.methodOf(f, name, a, b) : NONE;
                if (m == NONE || members.bears(m, ABSTRACT)) continue;
                if (found != NONE) return RING;
                found = m;
            }
            return found;
        }

        /** Makes a CALLER keep what it finds here for what it names: a FAULT, or 0. */
        int bind(Caller c) {
            if (c.sort == GET) return bindField(c);
            if (c.sort == CALL) return bindMethod(c);
            return types.isFaceType(c.type) || types.isAbstract(c.type) ? NOT_TO_BE_MADE : 0;
        }

        private int bindField(Caller c) {
            int m = lookForField(c.type, c.name, HIDDEN);
            if (m == NONE) return NO_SUCH;
            c.kind = members.firstOf(m);
            c.ofStatic = members.bears(m, STATIC);
            c.keeps = c.ofStatic && members.bears(m, FINAL);
            c.kept = c.keeps ? members.valueOf(m) : 0L;
            return 0;
        }

        private int bindMethod(Caller c) {
            int fits = 0;
            for (int m = 0; m < MOST_MEMBERS; m++) {
                if (!isFit(m, c)) continue;
                fitting[fits] = m;
                fits++;
            }
            if (fits == 0) return NO_SUCH;
            int m = closestOf(fits);
            if (m == NONE) return MANY;
            c.first = members.firstOf(m);
            c.second = members.secondOf(m);
            c.ofStatic = members.bears(m, STATIC);
            c.ofFace = types.isFaceType(c.type);
            return 0;
        }

        private boolean isFit(int m, Caller c) {
            if (!members.isMethod(m) || members.nameOf(m) != c.name || members.bears(m, HIDDEN)) return false;
            int a = members.firstOf(m);
            int b = members.secondOf(m);
            if (!goesInto(c.firstArgument, a) || !goesInto(c.secondArgument, b)) return false;
            int holders = members.methodHolders(c.name, a, b, 0);
            return types.firstHolder(c.type, holders, false) == members.ownerOf(m);
        }

        private boolean goesInto(int argument, int parameter) {
            if (argument == NONE || parameter == NONE) return argument == parameter;
            return types.isBelow(argument, parameter);
        }

        /** The one of those that fit whose PARAMETERS are BELOW those of each other one, or NONE. */
        private int closestOf(int fits) {
            int last = Math.min(fits, MOST_MEMBERS);
            for (int i = 0; i < last; i++) {
                boolean closest = true;
                for (int k = 0; k < last && closest; k++) closest = isCloser(fitting[i], fitting[k]);
                if (closest) return fitting[i];
            }
            return NONE;
        }

        private boolean isCloser(int m, int other) {
            return goesInto(members.firstOf(m), members.firstOf(other))
                && goesInto(members.secondOf(m), members.secondOf(other));
        }

        /** What a CALLER MEETS on a CLASS r: a FAILURE, or 0 and what it is in met. */
        int meets(Caller c, int r) {
            met = 0L;
            if (!types.isType(c.type) || !areParameters(c.first, c.second)) return LOST;
            if (c.keeps) return meetsValue(c.kept);
            int failure = read(c.type);
            if (failure != 0) return failure;
            if (c.sort == NEW) return types.isAbstract(c.type) ? HOLLOW : meetsValue((long) c.type);
            if (c.sort == CALL && types.isFaceType(c.type) != c.ofFace) return CHANGED;
            int m = c.sort == GET
                ? lookForField(c.type, c.name, 0) : lookForMethod(c.type, c.name, c.first, c.second);
            failure = failureOfFound(m, c);
            if (failure == 0 && !c.ofStatic) failure = failureOn(r, c.type);
            if (failure != 0) return failure;
            if (c.sort == GET) return meetsField(c, m);
            return c.ofStatic ? meetsValue(members.valueOf(m)) : meetsSelected(c, r);
        }

        private int meetsValue(long v) {
            met = v;
            return 0;
        }

        private int meetsField(Caller c, int m) {
            if (!widens(members.firstOf(m), c.kind)) return CAST;
            return meetsValue(asKind(c.kind, members.valueOf(m)));
        }

        private int meetsSelected(Caller c, int r) {
            int m = select(r, c.name, c.first, c.second);
            if (m == NONE) return EMPTY;
            if (m == RING) return CHANGED;
            return meetsValue(members.valueOf(m));
        }

        private int failureOfFound(int m, Caller c) {
            if (m == NONE) return LOST;
            if (members.bears(m, HIDDEN)) return CLOSED;
            return members.bears(m, STATIC) != c.ofStatic ? CHANGED : 0;
        }

        private int failureOn(int r, int type) {
            int failure = read(r);
            if (failure != 0) return failure;
            return types.isBelow(r, type) ? 0 : UNLIKE;
        }

        /**
         * READS a TYPE: a FAILURE, or 0. The topmost CLASS is read first, so its FAILURE takes the
         * place of those below. FACES have nothing above them, and nothing can fail in them.
         */
        private int read(int type) {
            int failure = 0;
            int at = type;
            for (int step = 0; step < MOST_TYPES && at != NONE; step++) {
                int up = types.aboveOf(at);
                if (types.isFinal(up)) failure = BARRED;
                else if (up != NONE && breaksFinal(at)) failure = BROKEN;
                at = up;
            }
            return failure;
        }

        /** Of those that a CLASS is BELOW, the other CLASSES are just the ones above it. */
        private boolean breaksFinal(int type) {
            for (int f = 0; f < MOST_MEMBERS; f++) {
                int up = members.ownerOf(f);
                if (up == type || !types.isClass(up) || !types.isBelow(type, up)) continue;
                if (members.isOpen(f) && members.bears(f, FINAL) && members.hasOpenLike(type, f)) return true;
            }
            return false;
        }
    }
}
