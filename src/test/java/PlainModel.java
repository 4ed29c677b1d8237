import java.util.ArrayList;
import java.util.LinkedHashSet;
import java.util.List;
import java.util.Set;
import java.util.TreeSet;

/** The document's words written down once more, without any thought of speed or room: what ModelTest asks. */
final class PlainModel {
    static final int BAD = -1, NO = -2, FULL = -3, NONE = -4;

    static final class Type {
        int number;
        int kind;
        Type superType;
        final List<Type> faces = new ArrayList<>();
        boolean isSealed;
        final Set<Integer> permits = new TreeSet<>();
        final Integer[] constants = new Integer[4];
        final Member[] own = new Member[10];

        boolean isFace() {
            return kind == 2;
        }

        List<Type> parents() {
            List<Type> all = new ArrayList<>();
            if (superType != null) {
                all.add(superType);
            }
            all.addAll(faces);
            return all;
        }

        boolean hasAncestor(Type other) {
            for (Type parent : parents()) {
                if (parent == other || parent.hasAncestor(other)) {
                    return true;
                }
            }
            return false;
        }

        List<Member> given(int name) {
            Set<Member> all = new LinkedHashSet<>();
            for (Type parent : parents()) {
                for (Member m : parent.has(name)) {
                    if (m.sort != 3 && !(m.sort == 2 && m.type.isFace())) {
                        all.add(m);
                    }
                }
            }
            return new ArrayList<>(all);
        }

        List<Member> has(int name) {
            if (own[name] != null) {
                return List.of(own[name]);
            }
            List<Member> given = given(name);
            List<Member> kept = new ArrayList<>();
            for (Member m : given) {
                boolean lost = false;
                for (Member other : given) {
                    if (other != m) {
                        lost |= m.type.isFace() && !other.type.isFace() && (other.sort == 1 || other.sort == 4);
                        lost |= other.type.hasAncestor(m.type);
                    }
                }
                if (!lost) {
                    kept.add(m);
                }
            }
            return kept;
        }

        int runs(int name) {
            List<Member> live = new ArrayList<>();
            for (Member m : has(name)) {
                if (m.sort != 2 && m.sort != 3) {
                    live.add(m);
                }
            }
            for (Member m : live) {
                if (!m.type.isFace() && m.sort != 0) {
                    return m.number;
                }
            }
            if (live.size() == 1 && live.get(0).sort == 1) {
                return live.get(0).number;
            }
            if (live.isEmpty()) {
                return -5;
            }
            boolean body = live.stream().anyMatch(m -> m.sort == 1);
            boolean classAbstract = live.stream().anyMatch(m -> m.sort == 0 && !m.type.isFace());
            return live.size() >= 2 && body && !classAbstract ? -6 : -7;
        }

        Member staticOf(int name) {
            if (own[name] != null && own[name].sort == 2) {
                return own[name];
            }
            if (isFace()) {
                return null;
            }
            return has(name).stream().filter(m -> m.sort == 2).findFirst().orElse(null);
        }

        Set<Integer> seen(int c) {
            Set<Integer> all = new TreeSet<>();
            if (constants[c] != null) {
                all.add(number);
                return all;
            }
            for (Type parent : parents()) {
                all.addAll(parent.seen(c));
            }
            return all;
        }
    }

    static final class Member {
        int number;
        Type type;
        int name;
        int sort;
        int result;
        int add;
        int call;
        int callType;
        int callName;

        boolean serves(Member q) {
            return result == q.result || q.result == 0 || result == 3 && q.result == 1;
        }
    }

    private final List<Type> types = new ArrayList<>();
    private final List<Member> members = new ArrayList<>();
    private int[] latest;

    PlainModel() {
        newType(0);
        types.get(0).superType = null;
        newMember(types.get(0), 0, 1, 0);
        newMember(types.get(0), 1, 1, 0);
        newMember(types.get(0), 2, 4, 0);
    }

    private int newType(int kind) {
        Type t = new Type();
        t.number = types.size();
        t.kind = kind;
        t.superType = kind == 2 || types.isEmpty() ? null : types.get(0);
        types.add(t);
        return t.number;
    }

    private int newMember(Type t, int name, int sort, int result) {
        Member m = new Member();
        m.number = members.size();
        m.type = t;
        m.name = name;
        m.sort = sort;
        m.result = result;
        t.own[name] = m;
        members.add(m);
        return m.number;
    }

    private boolean isType(int t) {
        return t >= 0 && t < types.size();
    }

    private boolean isFace(int t) {
        return isType(t) && types.get(t).isFace();
    }

    private boolean isClass(int t) {
        return isType(t) && !types.get(t).isFace();
    }

    private static boolean isIn(int n, int low, int high) {
        return n >= low && n <= high;
    }

    int type(int kind) {
        return !isIn(kind, 0, 2) ? BAD : types.size() == 16 ? FULL : newType(kind);
    }

    int extend(int t, int s) {
        if (t == 0 || !isClass(t) || !isClass(s) || s >= t) {
            return BAD;
        }
        int was = types.get(t).superType.number;
        types.get(t).superType = types.get(s);
        return was;
    }

    int face(int t, int f) {
        if (t == 0 || !isType(t) || !isFace(f) || f >= t) {
            return BAD;
        }
        List<Type> faces = types.get(t).faces;
        if (faces.contains(types.get(f))) {
            return NO;
        }
        if (faces.size() == 4) {
            return FULL;
        }
        faces.add(types.get(f));
        return faces.size();
    }

    int seal(int f, int t) {
        if (!isFace(f) || t != NONE && (!isType(t) || t <= f)) {
            return BAD;
        }
        types.get(f).isSealed = true;
        types.get(f).permits.add(t);
        return 1;
    }

    int member(int t, int name, int sort, int result) {
        if (t == 0 || !isType(t) || !isIn(name, 0, 9) || !isIn(sort, 0, 4) || !isIn(result, 0, 3)) {
            return BAD;
        }
        Type type = types.get(t);
        if (sort == 0 && type.kind == 0 || sort == 4 && type.kind == 2) {
            return BAD;
        }
        if (type.own[name] != null) {
            return NO;
        }
        return members.size() == 60 ? FULL : newMember(type, name, sort, result);
    }

    int does(int m, int add, int call, int u, int name) {
        if (!isIn(m, 0, members.size() - 1) || members.get(m).sort == 0 || !isIn(add, -1000, 1000) || !isIn(call, 0, 4)) {
            return BAD;
        }
        if (call == 3 && !isFace(u) || call == 4 && !isType(u) || call != 0 && !isIn(name, 0, 9)) {
            return BAD;
        }
        Member member = members.get(m);
        member.add = add;
        member.call = call;
        member.callType = u;
        member.callName = name;
        return 1;
    }

    int constant(int t, int c, int v) {
        if (!isType(t) || !isIn(c, 0, 3)) {
            return BAD;
        }
        if (types.get(t).constants[c] != null) {
            return NO;
        }
        types.get(t).constants[c] = v;
        return 1;
    }

    int has(int t, int name, int i) {
        if (!isType(t) || !isIn(name, 0, 9)) {
            return BAD;
        }
        List<Member> all = types.get(t).has(name);
        return i == NONE ? all.size() : isIn(i, 0, all.size() - 1) ? all.get(i).number : BAD;
    }

    int runs(int t, int name) {
        return !isType(t) || !isIn(name, 0, 9) ? BAD : types.get(t).runs(name);
    }

    int faults(int t, int i, int what) {
        if (!isType(t)) {
            return BAD;
        }
        List<int[]> all = faultsOf(types.get(t));
        if (i == NONE) {
            return all.size();
        }
        return isIn(i, 0, all.size() - 1) && isIn(what, 0, 1) ? all.get(i)[what] : BAD;
    }

    private List<int[]> faultsOf(Type t) {
        List<int[]> all = new ArrayList<>();
        for (int name = 0; name < 10; name++) {
            Member m = t.own[name];
            if (m == null) {
                continue;
            }
            if (t.isFace() && (name <= 1 && m.sort == 1 || name == 2 && m.sort != 3 && m.sort != 2)) {
                all.add(new int[] {1, m.number});
            }
            for (Member g : t.given(name)) {
                int code = m.sort == 3 ? 4 : m.sort == 2 ^ g.sort == 2 ? 2 : g.sort == 4 ? 3 : !m.serves(g) ? 5 : 0;
                if (code != 0) {
                    all.add(new int[] {code, m.number});
                }
            }
        }
        for (int name = 0; name < 10; name++) {
            if (t.own[name] == null) {
                List<Member> has = t.has(name);
                if (has.size() >= 2 && has.stream().noneMatch(m -> has.stream().allMatch(m::serves))) {
                    all.add(new int[] {6, name});
                }
                if (t.runs(name) == -6) {
                    all.add(new int[] {7, name});
                }
                if (t.runs(name) == -7 && t.kind == 0) {
                    all.add(new int[] {8, name});
                }
            }
        }
        for (Member m : members) {
            int code = m.type == t ? faultOfCall(t, m) : 0;
            if (code != 0) {
                all.add(new int[] {code, m.number});
            }
        }
        for (Type f : t.faces) {
            if (f.isSealed && !f.permits.contains(t.number)) {
                all.add(new int[] {13, f.number});
            }
        }
        return all;
    }

    private int faultOfCall(Type t, Member m) {
        if (m.sort == 2 && isIn(m.call, 1, 3)) {
            return 9;
        }
        if (m.call == 1 && t.has(m.callName).isEmpty()) {
            return 10;
        }
        if (m.call == 2 && (t.superType == null || t.superType.runs(m.callName) < 0)) {
            return 10;
        }
        if (m.call == 3) {
            Type f = types.get(m.callType);
            boolean isNone = !t.faces.contains(f);
            boolean another = t.parents().stream().anyMatch(p -> p != f && p.hasAncestor(f));
            return isNone || another ? 11 : f.runs(m.callName) < 0 ? 12 : 0;
        }
        return m.call == 4 && types.get(m.callType).staticOf(m.callName) == null ? 12 : 0;
    }

    int functional(int f) {
        if (!isFace(f)) {
            return BAD;
        }
        List<List<Member>> found = new ArrayList<>();
        for (int name = 3; name < 10; name++) {
            List<Member> has = types.get(f).has(name);
            if (has.stream().anyMatch(m -> m.sort == 0)) {
                found.add(has);
            }
        }
        if (found.size() != 1 || found.get(0).stream().anyMatch(m -> m.sort == 1)) {
            return NONE;
        }
        List<Member> all = found.get(0);
        return all.stream().filter(m -> all.stream().allMatch(m::serves)).map(m -> m.number).findFirst().orElse(NONE);
    }

    int sees(int t, int c) {
        if (!isType(t) || !isIn(c, 0, 3)) {
            return BAD;
        }
        Set<Integer> all = types.get(t).seen(c);
        return all.isEmpty() ? NONE : all.size() > 1 ? NO : all.iterator().next();
    }

    int value(int t, int c) {
        int home = sees(t, c);
        return home >= 0 ? types.get(home).constants[c] : 0;
    }

    int below(int t, int u) {
        if (!isType(t) || !isType(u)) {
            return BAD;
        }
        return t == u || u == 0 || types.get(t).hasAncestor(types.get(u)) ? 1 : 0;
    }

    int call(int t, int name) {
        if (!isType(t) || types.get(t).kind != 0 || !isIn(name, 0, 9)) {
            return BAD;
        }
        latest = new int[] {0, 0, NONE};
        return goOn(types.get(t), types.get(t).runs(name), 0);
    }

    private int goOn(Type object, int next, int sum) {
        if (next < 0) {
            latest[0] = NONE - next;
            return sum;
        }
        if (latest[1] == 30) {
            latest[0] = 4;
            return sum;
        }
        latest[1]++;
        latest[2] = next;
        Member m = members.get(next);
        if (m.call == 0) {
            return sum + m.add;
        }
        return goOn(object, target(object, m), sum + m.add);
    }

    private int target(Type object, Member m) {
        int n = m.callName;
        if (m.call == 4) {
            Member found = types.get(m.callType).staticOf(n);
            return found == null ? -5 : found.number;
        }
        if (m.sort == 2) {
            return -5;
        }
        if (m.call == 1) {
            Member own = m.type.own[n];
            return own != null && own.sort == 3 ? own.number : object.runs(n);
        }
        if (m.call == 2) {
            return m.type.superType == null ? -5 : m.type.superType.runs(n);
        }
        return types.get(m.callType).runs(n);
    }

    int latest(int what) {
        return latest == null || !isIn(what, 0, 2) ? BAD : latest[what];
    }

    int told(int what) {
        switch (what) {
            case 0: return types.size();
            case 1: return members.size();
            case 2: return (int) types.stream().filter(t -> faultsOf(t).isEmpty()).count();
            default: return BAD;
        }
    }
}
