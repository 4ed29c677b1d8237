import java.util.Arrays;

/** Classes and faces with members by name: what a type has, runs and has against it, and what a call runs. */
public final class InterfaceRules {
    public static final int BAD = -1, NO = -2, FULL = -3, NONE = -4;

    private static final int MOST_TYPES = 16, MOST_FACES = 4, MOST_MEMBERS = 60, MOST_ENTERED = 30;
    private static final int NAMES = 10, FIRST_FREE_NAME = 3, RESULTS = 4, CONSTANTS = 4, MOST_ADDED = 1000;
    private static final int ROOT = 0;

    private static final int CLASS_KIND = 0, OPEN_KIND = 1, FACE_KIND = 2;
    private static final int ABSTRACT = 0, BODY = 1, STATIC = 2, PRIVATE = 3, FINAL = 4;
    private static final int NO_CALL = 0, THIS_CALL = 1, SUPER_CALL = 2, FACE_CALL = 3, STATIC_CALL = 4;

    // A reason stands as NONE less its code wherever a member's number could stand,
    // so that NONE itself means "nothing more to run" there.
    private static final int MISSING = NONE - 1, CLASH = NONE - 2, UNDONE = NONE - 3, DEEP = NONE - 4;

    // A type of the greatest number with 10 own members is given at most 15 of each name:
    // 10 * (1 + 15) of these, 10 of calls, 4 of sealed faces.
    private static final int MOST_FAULTS = NAMES * MOST_TYPES + NAMES + MOST_FACES;

    private final TypeTable types;
    private final MemberTable members;
    private final Holdings holdings;
    private final FaultList faultList;
    private final Caller caller;

    public InterfaceRules() {
        types = new TypeTable();
        members = new MemberTable();
        holdings = new Holdings(types, members);
        faultList = new FaultList(types, members, holdings);
        caller = new Caller(types, members, holdings);
    }

    public int type(int kind) {
        if (kind < CLASS_KIND || kind > FACE_KIND) {
            return BAD;
        }
        if (types.count >= MOST_TYPES) {
            return FULL;
        }
        holdings.forgetAll();
        return types.append(kind);
    }

    public int extend(int t, int s) {
        if (t == ROOT || !types.isClass(t) || !types.isClass(s) || s >= t) {
            return BAD;
        }
        holdings.forgetAll();
        return types.changeSuper(t, s);
    }

    public int face(int t, int f) {
        if (t == ROOT || !types.exists(t) || !types.isFace(f) || f >= t) {
            return BAD;
        }
        if (types.isFaceOf(t, f)) {
            return NO;
        }
        if (types.faceCount[t] >= MOST_FACES) {
            return FULL;
        }
        holdings.forgetAll();
        return types.appendFace(t, f);
    }

    public int seal(int f, int t) {
        if (!types.isFace(f)) {
            return BAD;
        }
        if (t != NONE && (!types.exists(t) || t <= f)) {
            return BAD;
        }
        types.isSealed[f] = true;
        if (t != NONE) {
            types.permitted[f] |= 1 << t;
        }
        return 1;
    }

    public int member(int t, int name, int sort, int result) {
        if (t == ROOT || !types.exists(t) || !isName(name)) {
            return BAD;
        }
        if (!types.takesSort(t, sort) || result < 0 || result >= RESULTS) {
            return BAD;
        }
        if (members.ownOf(t, name) != NONE) {
            return NO;
        }
        if (members.count >= MOST_MEMBERS) {
            return FULL;
        }
        holdings.forget(name);
        return members.append(t, name, sort, result);
    }

    public int does(int m, int add, int call, int u, int name) {
        if (!members.exists(m) || members.sort[m] == ABSTRACT) {
            return BAD;
        }
        if (add < -MOST_ADDED || add > MOST_ADDED || !isCall(call, u, name)) {
            return BAD;
        }
        members.tell(m, add, call, u, name);
        return 1;
    }

    public int constant(int t, int c, int v) {
        if (!types.exists(t) || !isConstant(c)) {
            return BAD;
        }
        return types.tellConstant(t, c, v) ? 1 : NO;
    }

    public int has(int t, int name, int i) {
        if (!types.exists(t) || !isName(name)) {
            return BAD;
        }
        holdings.refresh(name);
        int held = holdings.countOf(t, name);
        if (i == NONE) {
            return held;
        }
        return i >= 0 && i < held ? holdings.heldAt(t, name, i) : BAD;
    }

    public int runs(int t, int name) {
        if (!types.exists(t) || !isName(name)) {
            return BAD;
        }
        holdings.refresh(name);
        return holdings.runner(t, name);
    }

    public int faults(int t, int i, int what) {
        if (!types.exists(t)) {
            return BAD;
        }
        holdings.refreshAll();
        int found = faultList.collect(t);
        if (i == NONE) {
            return found;
        }
        if (i < 0 || i >= found || what < 0 || what > 1) {
            return BAD;
        }
        return what == 0 ? faultList.codes[i] : faultList.numbers[i];
    }

    public int functional(int f) {
        if (!types.isFace(f)) {
            return BAD;
        }
        holdings.refreshAll();
        int name = holdings.onlyAbstractName(f);
        if (name == NONE || holdings.holdsSort(f, name, BODY)) {
            return NONE;
        }
        return holdings.firstServingAll(f, name);
    }

    public int sees(int t, int c) {
        if (!types.exists(t) || !isConstant(c)) {
            return BAD;
        }
        return types.seenFrom(t, c);
    }

    public int value(int t, int c) {
        if (!types.exists(t) || !isConstant(c)) {
            return 0;
        }
        int home = types.seenFrom(t, c);
        return home >= 0 ? types.constantOf(home, c) : 0;
    }

    public int below(int t, int u) {
        if (!types.exists(t) || !types.exists(u)) {
            return BAD;
        }
        return t == u || u == ROOT || types.hasAncestor(t, u) ? 1 : 0;
    }

    public int call(int t, int name) {
        if (!types.exists(t) || types.kind[t] != CLASS_KIND || !isName(name)) {
            return BAD;
        }
        holdings.refreshAll();
        return caller.perform(t, name);
    }

    public int latest(int what) {
        if (!caller.hasPerformed) {
            return BAD;
        }
        switch (what) {
            case 0: return NONE - caller.end;
            case 1: return caller.entered;
            case 2: return caller.last;
            default: return BAD;
        }
    }

    public int told(int what) {
        switch (what) {
            case 0: return types.count;
            case 1: return members.count;
            case 2:
                holdings.refreshAll();
                return countFaultless();
            default: return BAD;
        }
    }

    // The holdings must be fresh.
    private int countFaultless() {
        int faultless = 0;
        for (int t = 0; t < types.count; t++) {
            if (faultList.collect(t) == 0) {
                faultless++;
            }
        }
        return faultless;
    }

    private boolean isCall(int call, int u, int name) {
        switch (call) {
            case NO_CALL: return true;
            case THIS_CALL:
            case SUPER_CALL: return isName(name);
            case FACE_CALL: return isName(name) && types.isFace(u);
            case STATIC_CALL: return isName(name) && types.exists(u);
            default: return false;
        }
    }

    private static boolean isName(int name) {
        return name >= 0 && name < NAMES;
    }

    private static boolean isConstant(int c) {
        return c >= 0 && c < CONSTANTS;
    }

    /** The types, how they stand to one another, and their constants. */
    private static final class TypeTable {
        int count;
        final int[] kind = new int[MOST_TYPES];
        final int[] superOf = new int[MOST_TYPES];
        final int[] faceCount = new int[MOST_TYPES];
        final int[] permitted = new int[MOST_TYPES];
        final boolean[] isSealed = new boolean[MOST_TYPES];
        private final int[] faces = new int[MOST_TYPES * MOST_FACES];
        final int[] ancestors = new int[MOST_TYPES];
        private final int[] parentsAncestors = new int[MOST_TYPES];
        private final boolean[] isTold = new boolean[MOST_TYPES * CONSTANTS];
        private final int[] constants = new int[MOST_TYPES * CONSTANTS];
        private final int[] seen = new int[MOST_TYPES];

        TypeTable() {
            kind[ROOT] = CLASS_KIND;
            count = 1;
        }

        boolean exists(int t) {
            return t >= 0 && t < count;
        }

        boolean isFace(int t) {
            return exists(t) && kind[t] == FACE_KIND;
        }

        boolean isClass(int t) {
            return exists(t) && kind[t] != FACE_KIND;
        }

        boolean takesSort(int t, int sort) {
            switch (sort) {
                case ABSTRACT: return kind[t] == FACE_KIND || kind[t] == OPEN_KIND;
                case FINAL: return kind[t] != FACE_KIND;
                default: return sort == BODY || sort == STATIC || sort == PRIVATE;
            }
        }

        int append(int newKind) {
            int t = count;
            kind[t] = newKind;
            count++;
            settleAncestors(t);
            return t;
        }

        int changeSuper(int t, int s) {
            int before = superOf[t];
            superOf[t] = s;
            settleAncestors(t);
            return before;
        }

        int appendFace(int t, int f) {
            faces[t * MOST_FACES + faceCount[t]] = f;
            faceCount[t]++;
            settleAncestors(t);
            return faceCount[t];
        }

        int faceAt(int t, int i) {
            return faces[t * MOST_FACES + i];
        }

        boolean isFaceOf(int t, int f) {
            for (int i = 0; i < faceCount[t]; i++) {
                if (faceAt(t, i) == f) {
                    return true;
                }
            }
            return false;
        }

        boolean hasSuper(int t) {
            return t != ROOT && kind[t] != FACE_KIND;
        }

        int parentCount(int t) {
            return hasSuper(t) ? 1 + faceCount[t] : faceCount[t];
        }

        int parentAt(int t, int i) {
            if (!hasSuper(t)) {
                return faceAt(t, i);
            }
            return i == 0 ? superOf[t] : faceAt(t, i - 1);
        }

        boolean hasAncestor(int t, int u) {
            return (ancestors[t] >> u & 1) != 0;
        }

        boolean hasAncestorOfParent(int t, int u) {
            return (parentsAncestors[t] >> u & 1) != 0;
        }

        boolean permits(int f, int t) {
            return (permitted[f] >> t & 1) != 0;
        }

        // Parents have lesser numbers, so rising numbers meet every parent settled.
        private void settleAncestors(int from) {
            for (int t = from; t < count; t++) {
                int parents = 0;
                int beyond = 0;
                for (int i = 0; i < parentCount(t); i++) {
                    int parent = parentAt(t, i);
                    parents |= 1 << parent;
                    beyond |= ancestors[parent];
                }
                parentsAncestors[t] = beyond;
                ancestors[t] = parents | beyond;
            }
        }

        boolean tellConstant(int t, int c, int v) {
            int at = t * CONSTANTS + c;
            if (isTold[at]) {
                return false;
            }
            isTold[at] = true;
            constants[at] = v;
            return true;
        }

        int constantOf(int t, int c) {
            return constants[t * CONSTANTS + c];
        }

        int seenFrom(int t, int c) {
            for (int u = 0; u <= t; u++) {
                seen[u] = isTold[u * CONSTANTS + c] ? u : seenByParents(u);
            }
            return seen[t];
        }

        // A parent that sees several hands all of them on: they stay several.
        private int seenByParents(int t) {
            int only = NONE;
            for (int i = 0; i < parentCount(t); i++) {
                int one = seen[parentAt(t, i)];
                if (only == NONE) {
                    only = one;
                } else if (one != NONE && one != only) {
                    only = NO;
                }
            }
            return only;
        }
    }

    /** The members: whose they are, what they are, and what they do. */
    private static final class MemberTable {
        int count;
        final int[] owner = new int[MOST_MEMBERS];
        final int[] sort = new int[MOST_MEMBERS];
        final int[] added = new int[MOST_MEMBERS];
        final int[] callKind = new int[MOST_MEMBERS];
        final int[] callType = new int[MOST_MEMBERS];
        final int[] callName = new int[MOST_MEMBERS];
        private final int[] result = new int[MOST_MEMBERS];
        private final int[] own = new int[MOST_TYPES * NAMES];

        MemberTable() {
            Arrays.fill(own, NONE);
            append(ROOT, 0, BODY, 0);
            append(ROOT, 1, BODY, 0);
            append(ROOT, 2, FINAL, 0);
        }

        boolean exists(int m) {
            return m >= 0 && m < count;
        }

        int append(int t, int name, int newSort, int newResult) {
            int m = count;
            owner[m] = t;
            sort[m] = newSort;
            result[m] = newResult;
            own[t * NAMES + name] = m;
            count++;
            return m;
        }

        void tell(int m, int add, int kind, int type, int name) {
            added[m] = add;
            callKind[m] = kind;
            callType[m] = type;
            callName[m] = name;
        }

        int ownOf(int t, int name) {
            return own[t * NAMES + name];
        }

        boolean serves(int m, int other) {
            int r = result[m];
            int q = result[other];
            return r == q || q == 0 || r == 3 && q == 1;
        }
    }

    /** What each type is given, has and runs of each name; kept by name until a change makes it stale. */
    private static final class Holdings {
        private final TypeTable types;
        private final MemberTable members;
        private final boolean[] isFresh = new boolean[NAMES];
        private final int[] counts = new int[NAMES * MOST_TYPES];
        // A type has at most one member of a name from each type, so a row of MOST_TYPES is enough.
        private final int[] held = new int[NAMES * MOST_TYPES * MOST_TYPES];
        final int[] given = new int[MOST_TYPES];
        int givenCount;

        Holdings(TypeTable types, MemberTable members) {
            this.types = types;
            this.members = members;
        }

        void forgetAll() {
            for (int name = 0; name < NAMES; name++) {
                isFresh[name] = false;
            }
        }

        void forget(int name) {
            isFresh[name] = false;
        }

        void refreshAll() {
            for (int name = 0; name < NAMES; name++) {
                refresh(name);
            }
        }

        void refresh(int name) {
            if (isFresh[name]) {
                return;
            }
            // Parents have lesser numbers: what they have is settled when it is gathered.
            for (int t = 0; t < types.count; t++) {
                settle(t, name);
            }
            isFresh[name] = true;
        }

        int countOf(int t, int name) {
            return counts[name * MOST_TYPES + t];
        }

        int heldAt(int t, int name, int i) {
            return held[(name * MOST_TYPES + t) * MOST_TYPES + i];
        }

        private void settle(int t, int name) {
            counts[name * MOST_TYPES + t] = 0;
            int own = members.ownOf(t, name);
            if (own != NONE) {
                hold(t, name, own);
                return;
            }
            gather(t, name);
            boolean classBody = isClassBodyGiven();
            int overridden = ancestorsOfGiven();
            for (int i = 0; i < givenCount; i++) {
                int home = members.owner[given[i]];
                boolean lost = classBody && types.kind[home] == FACE_KIND || (overridden >> home & 1) != 0;
                if (!lost) {
                    hold(t, name, given[i]);
                }
            }
        }

        private void hold(int t, int name, int m) {
            int row = name * MOST_TYPES + t;
            held[row * MOST_TYPES + counts[row]] = m;
            counts[row]++;
        }

        /** Fills the row of what is given to a type of a name, lost or not. */
        void gather(int t, int name) {
            givenCount = 0;
            int homes = 0;
            for (int i = 0; i < types.parentCount(t); i++) {
                int parent = types.parentAt(t, i);
                for (int k = 0; k < countOf(parent, name); k++) {
                    int m = heldAt(parent, name, k);
                    int home = 1 << members.owner[m];
                    if ((homes & home) == 0 && isHandedOn(m)) {
                        homes |= home;
                        given[givenCount] = m;
                        givenCount++;
                    }
                }
            }
        }

        private boolean isHandedOn(int m) {
            int sort = members.sort[m];
            return sort != PRIVATE && !(sort == STATIC && types.kind[members.owner[m]] == FACE_KIND);
        }

        private boolean isClassBodyGiven() {
            for (int i = 0; i < givenCount; i++) {
                int sort = members.sort[given[i]];
                if ((sort == BODY || sort == FINAL) && types.kind[members.owner[given[i]]] != FACE_KIND) {
                    return true;
                }
            }
            return false;
        }

        private int ancestorsOfGiven() {
            int set = 0;
            for (int i = 0; i < givenCount; i++) {
                set |= types.ancestors[members.owner[given[i]]];
            }
            return set;
        }

        /** The member that a type runs for a name, or the reason why it runs nothing. */
        int runner(int t, int name) {
            int alive = 0;
            int body = NONE;
            boolean abstractOfClass = false;
            for (int i = 0; i < countOf(t, name); i++) {
                int m = heldAt(t, name, i);
                int sort = members.sort[m];
                if (sort == STATIC || sort == PRIVATE) {
                    continue;
                }
                boolean ofClass = types.kind[members.owner[m]] != FACE_KIND;
                if (ofClass && sort != ABSTRACT) {
                    return m;
                }
                alive++;
                body = sort == BODY ? m : body;
                abstractOfClass = abstractOfClass || ofClass;
            }
            if (alive == 0) {
                return MISSING;
            }
            if (body == NONE) {
                return UNDONE;
            }
            if (alive == 1) {
                return body;
            }
            return abstractOfClass ? UNDONE : CLASH;
        }

        // A face has no static one but its own, so one look at what the type has serves for both kinds.
        int staticOf(int s, int name) {
            for (int i = 0; i < countOf(s, name); i++) {
                int m = heldAt(s, name, i);
                if (members.sort[m] == STATIC) {
                    return m;
                }
            }
            return MISSING;
        }

        boolean holdsSort(int t, int name, int sort) {
            for (int i = 0; i < countOf(t, name); i++) {
                if (members.sort[heldAt(t, name, i)] == sort) {
                    return true;
                }
            }
            return false;
        }

        int onlyAbstractName(int f) {
            int only = NONE;
            for (int name = FIRST_FREE_NAME; name < NAMES; name++) {
                if (holdsSort(f, name, ABSTRACT)) {
                    if (only != NONE) {
                        return NONE;
                    }
                    only = name;
                }
            }
            return only;
        }

        int firstServingAll(int t, int name) {
            for (int i = 0; i < countOf(t, name); i++) {
                int m = heldAt(t, name, i);
                if (servesAll(m, t, name)) {
                    return m;
                }
            }
            return NONE;
        }

        private boolean servesAll(int m, int t, int name) {
            for (int i = 0; i < countOf(t, name); i++) {
                if (!members.serves(m, heldAt(t, name, i))) {
                    return false;
                }
            }
            return true;
        }
    }

    /** What is against one type, in the document's order; the rows are used again for each type. */
    private static final class FaultList {
        private final TypeTable types;
        private final MemberTable members;
        private final Holdings holdings;
        final int[] codes = new int[MOST_FAULTS];
        final int[] numbers = new int[MOST_FAULTS];
        private int size;

        FaultList(TypeTable types, MemberTable members, Holdings holdings) {
            this.types = types;
            this.members = members;
            this.holdings = holdings;
        }

        /** Fills the rows with a type's faults: how many. The holdings must be fresh. */
        int collect(int t) {
            size = 0;
            for (int name = 0; name < NAMES; name++) {
                int own = members.ownOf(t, name);
                if (own != NONE) {
                    addOwn(t, name, own);
                }
            }
            for (int name = 0; name < NAMES; name++) {
                if (members.ownOf(t, name) == NONE) {
                    addInherited(t, name);
                }
            }
            for (int m = 0; m < members.count; m++) {
                if (members.owner[m] == t) {
                    addIfAny(faultOfCall(t, m), m);
                }
            }
            addSealed(t);
            return size;
        }

        private void addIfAny(int code, int number) {
            if (code != 0 && size < MOST_FAULTS) {
                codes[size] = code;
                numbers[size] = number;
                size++;
            }
        }

        private void addOwn(int t, int name, int own) {
            if (types.kind[t] == FACE_KIND && isAgainstRoot(name, members.sort[own])) {
                addIfAny(1, own);
            }
            holdings.gather(t, name);
            for (int i = 0; i < holdings.givenCount; i++) {
                addIfAny(faultAgainst(own, holdings.given[i]), own);
            }
        }

        private static boolean isAgainstRoot(int name, int sort) {
            if (name == 2) {
                return sort != PRIVATE && sort != STATIC;
            }
            return name < 2 && sort == BODY;
        }

        private int faultAgainst(int own, int given) {
            int sort = members.sort[own];
            int givenSort = members.sort[given];
            if (sort == PRIVATE) {
                return 4;
            }
            if ((sort == STATIC) != (givenSort == STATIC)) {
                return 2;
            }
            if (givenSort == FINAL) {
                return 3;
            }
            return members.serves(own, given) ? 0 : 5;
        }

        private void addInherited(int t, int name) {
            if (holdings.countOf(t, name) >= 2 && holdings.firstServingAll(t, name) == NONE) {
                addIfAny(6, name);
            }
            int run = holdings.runner(t, name);
            if (run == CLASH) {
                addIfAny(7, name);
            }
            if (run == UNDONE && types.kind[t] == CLASS_KIND) {
                addIfAny(8, name);
            }
        }

        private int faultOfCall(int t, int m) {
            int kind = members.callKind[m];
            int name = members.callName[m];
            if (members.sort[m] == STATIC && kind != NO_CALL && kind != STATIC_CALL) {
                return 9;
            }
            switch (kind) {
                case THIS_CALL: return holdings.countOf(t, name) == 0 ? 10 : 0;
                case SUPER_CALL: return isSuperRunning(t, name) ? 0 : 10;
                case FACE_CALL: return faultOfFaceCall(t, members.callType[m], name);
                case STATIC_CALL: return holdings.staticOf(members.callType[m], name) >= 0 ? 0 : 12;
                default: return 0;
            }
        }

        private boolean isSuperRunning(int t, int name) {
            return types.hasSuper(t) && holdings.runner(types.superOf[t], name) >= 0;
        }

        private int faultOfFaceCall(int t, int f, int name) {
            // No face is its own ancestor, so only another parent can have f as one.
            if (!types.isFaceOf(t, f) || types.hasAncestorOfParent(t, f)) {
                return 11;
            }
            return holdings.runner(f, name) >= 0 ? 0 : 12;
        }

        private void addSealed(int t) {
            for (int i = 0; i < types.faceCount[t]; i++) {
                int f = types.faceAt(t, i);
                if (types.isSealed[f] && !types.permits(f, t)) {
                    addIfAny(13, f);
                }
            }
        }
    }

    /** Runs a call from body to body, and keeps how the latest one went. */
    private static final class Caller {
        private final TypeTable types;
        private final MemberTable members;
        private final Holdings holdings;
        boolean hasPerformed;
        int entered;
        int last;
        int end;

        Caller(TypeTable types, MemberTable members, Holdings holdings) {
            this.types = types;
            this.members = members;
            this.holdings = holdings;
        }

        /** The sum of a call of a name on an object of class t. The holdings must be fresh. */
        int perform(int t, int name) {
            int sum = 0;
            int steps = 0;
            int next = holdings.runner(t, name);
            last = NONE;
            while (next >= 0 && steps < MOST_ENTERED) {
                steps++;
                sum += members.added[next];
                last = next;
                next = following(next, t);
            }
            entered = steps;
            end = next >= 0 ? DEEP : next;
            hasPerformed = true;
            return sum;
        }

        // NONE: the member calls nothing; else the member that its call enters, or why it stops.
        private int following(int m, int t) {
            int kind = members.callKind[m];
            int name = members.callName[m];
            if (kind == NO_CALL) {
                return NONE;
            }
            if (kind == STATIC_CALL) {
                return holdings.staticOf(members.callType[m], name);
            }
            if (members.sort[m] == STATIC) {
                return MISSING;
            }
            int home = members.owner[m];
            switch (kind) {
                case THIS_CALL: return runnerFromInside(home, t, name);
                case SUPER_CALL: return types.hasSuper(home) ? holdings.runner(types.superOf[home], name) : MISSING;
                default: return holdings.runner(members.callType[m], name);
            }
        }

        private int runnerFromInside(int home, int t, int name) {
            int own = members.ownOf(home, name);
            if (own != NONE && members.sort[own] == PRIVATE) {
                return own;
            }
            return holdings.runner(t, name);
        }
    }
}
