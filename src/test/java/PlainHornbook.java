import java.util.ArrayList;
import java.util.HashMap;
import java.util.List;
import java.util.Map;

/**
 * The document, written a second time and as plainly as it goes: TYPES are whole, nothing that was found out is kept
 * between two calls, and everything is found anew from what was told. PlainTest compares the two.
 */
class PlainHornbook {
    /** A TYPE; its code is as in a LINE. What is built in the same way is made once, so the SAME is ==. */
    static final class T {
        final int code;
        final List<T> in;
        final int number;
        private final int depth;
        /** The length of its LINE, as far as a long goes. */
        final long size;
        /** What is in it that is no TYPE of a SORT, one bit each. */
        private final int leaves;

        private T(int code, List<T> in, int number) {
            this.code = code;
            this.in = in;
            this.number = number;
            int deepest = 0;
            long length = 1;
            int leaves = code < 0 ? 1 << -code : 0;
            for (T t : in) {
                leaves |= t.leaves;
                deepest = Math.max(deepest, t.depth + 1);
                length = Math.min(length + t.size, Long.MAX_VALUE / 4);
            }
            depth = deepest;
            size = length;
            this.leaves = leaves;
        }

        int code() {
            return code;
        }

        List<T> in() {
            return in;
        }

        int depth() {
            return depth;
        }

        boolean has(int what) {
            return (leaves >> -what & 1) == 1;
        }

        boolean isClosed() {
            return !has(-3) && !has(-4) && !has(-5);
        }

        int greatest() {
            int greatest = code;
            for (T t : in) greatest = Math.max(greatest, t.greatest());
            return greatest;
        }
    }

    record Told(int sort, int name, List<T> given, T result, boolean isGeneral) { }

    /** What was told of an EXPRESSION: a kind 0 to 3, those named in it, a NAME, a TYPE. */
    record Said(int kind, List<Integer> parts, int name, T told) { }

    record Seen(int number, int place, List<T> given, T result, T own) { }

    static final class Judged {
        T type;
        int seen;
        int taking;
        int chosen = -1;
        T own;
        int fault;
        boolean isFaulty;
    }

    static final T ANY = new T(-1, List.of(), 0);
    static final T NOTHING = new T(-2, List.of(), 1);
    static final T OWN = new T(-3, List.of(), 2);

    private final Map<List<Integer>, T> made = new HashMap<>();
    final List<int[]> hows = new ArrayList<>();
    final List<List<T>> parents = new ArrayList<>();
    final List<T> types = new ArrayList<>(List.of(ANY, NOTHING, OWN));
    final List<Told> methods = new ArrayList<>();
    final List<Said> said = new ArrayList<>();

    // ---- what is told

    int sort(int many, int first, int second) {
        if (many < 0 || many > 2) throw new IllegalArgumentException();
        int[] how = many == 0 ? new int[] {} : many == 1 ? new int[] {first} : new int[] {first, second};
        for (int h : how) if (h < 0 || h > 2) throw new IllegalArgumentException();
        if (hows.size() == 12) throw new IllegalStateException();
        hows.add(how);
        parents.add(new ArrayList<>());
        return hows.size() - 1;
    }

    int parent(int sort, int type) {
        inside(sort, hows.size());
        inside(type, types.size());
        T t = types.get(type);
        boolean isGood = t.code >= 0 && t.greatest() < sort && !t.has(-3);
        for (int p = hows.get(sort).length; p < 2; p++) isGood &= !t.has(-4 - p);
        if (!isGood) throw new IllegalArgumentException();
        if (parents.get(sort).size() == 2) throw new IllegalStateException();
        parents.get(sort).add(t);
        return parents.get(sort).size();
    }

    int type(int sort, int one, int other) {
        inside(sort, hows.size());
        List<T> in = told(one, other);
        if (in.size() != hows.get(sort).length) throw new IllegalArgumentException();
        T t = make(sort, in);
        if (t.depth() > 4) throw new IllegalArgumentException();
        return addType(t);
    }

    int parameter(int which) {
        if (which < 0 || which > 1) throw new IllegalArgumentException();
        return addType(make(-4 - which, List.of()));
    }

    int addType(T t) {
        if (types.size() == 60) throw new IllegalStateException();
        types.add(t);
        return types.size() - 1;
    }

    int method(int sort, int name, int one, int other, int result, boolean isGeneral) {
        inside(sort, hows.size());
        for (int t : new int[] {one, other}) if (t != -1) inside(t, types.size());
        inside(result, types.size());
        if (name < 0 || name > 9) throw new IllegalArgumentException();
        List<T> given = told(one, other);
        List<T> all = new ArrayList<>(given);
        all.add(types.get(result));
        for (T t : all) {
            for (int p = hows.get(sort).length; p < 2; p++) if (t.has(-4 - p)) throw new IllegalArgumentException();
            if (!isGeneral && t.has(-3)) throw new IllegalArgumentException();
        }
        if (methods.size() == 30) throw new IllegalStateException();
        methods.add(new Told(sort, name, given, types.get(result), isGeneral));
        return methods.size() - 1;
    }

    int value(int type) {
        inside(type, types.size());
        if (!types.get(type).isClosed()) throw new IllegalArgumentException();
        return say(new Said(0, List.of(), 0, types.get(type)));
    }

    int either(int a, int b) {
        inside(a, said.size());
        inside(b, said.size());
        return say(new Said(1, List.of(a, b), 0, null));
    }

    int as(int expression, int type) {
        inside(expression, said.size());
        inside(type, types.size());
        if (!types.get(type).isClosed()) throw new IllegalArgumentException();
        return say(new Said(2, List.of(expression), 0, types.get(type)));
    }

    int call(int expression, int name, int one, int other) {
        inside(expression, said.size());
        List<Integer> parts = new ArrayList<>(List.of(expression));
        for (int e : new int[] {one, other}) {
            if (e == -1) continue;
            inside(e, said.size());
            parts.add(e);
        }
        if (name < 0 || name > 9 || one == -1 && other != -1) throw new IllegalArgumentException();
        return say(new Said(3, parts, name, null));
    }

    int say(Said what) {
        if (said.size() == 40) throw new IllegalStateException();
        said.add(what);
        return said.size() - 1;
    }

    static void inside(int number, int size) {
        if (number < 0 || number >= size) throw new IndexOutOfBoundsException();
    }

    List<T> told(int one, int other) {
        if (one != -1) inside(one, types.size());
        if (other != -1) inside(other, types.size());
        if (one == -1 && other != -1) throw new IllegalArgumentException();
        List<T> in = new ArrayList<>();
        if (one != -1) in.add(types.get(one));
        if (other != -1) in.add(types.get(other));
        return in;
    }

    int many(int what) {
        if (what < 0 || what > 3) throw new IllegalArgumentException();
        return new int[] {hows.size(), types.size(), methods.size(), said.size()}[what];
    }

    // ---- TYPES

    T make(int code, List<T> in) {
        if (code >= -3 && code < 0) return code == -1 ? ANY : code == -2 ? NOTHING : OWN;
        List<Integer> key = new ArrayList<>(List.of(code));
        for (T t : in) key.add(t.number);
        return made.computeIfAbsent(key, k -> new T(code, in, made.size() + 3));
    }

    T put(T in, List<T> parameters, T own) {
        if (in.code == -4 && parameters != null) return parameters.get(0);
        if (in.code == -5 && parameters != null) return parameters.get(1);
        if (in.code == -3 && own != null) return own;
        boolean isTouched = parameters != null && (in.has(-4) || in.has(-5)) || own != null && in.has(-3);
        if (!isTouched) return in;
        List<T> inner = new ArrayList<>();
        for (T t : in.in) {
            T now = put(t, parameters, own);
            inner.add(now.depth() >= 4 ? ANY : now);
        }
        return make(in.code, inner);
    }

    void climb(T t, List<T> road, boolean isWhole) {
        if (t.code < 0) return;
        if (!isWhole && find(road, t.code) != null) return;
        road.add(t);
        for (T p : parents.get(t.code)) climb(put(p, t.in, null), road, isWhole);
    }

    List<T> road(T t) {
        List<T> road = new ArrayList<>();
        climb(t, road, false);
        return road;
    }

    static T find(List<T> road, int sort) {
        for (T t : road) if (t.code == sort) return t;
        return null;
    }

    boolean under(T a, T b) {
        if (a.equals(NOTHING) || b.equals(ANY) || a.equals(b)) return true;
        if (b.code < 0) return false;
        T x = find(road(a), b.code);
        if (x == null) return false;
        for (int i = 0; i < b.in.size(); i++) {
            T p = x.in.get(i);
            T q = b.in.get(i);
            int how = hows.get(b.code)[i];
            if (how == 0 && !p.equals(q) || how == 1 && !under(p, q) || how == 2 && !under(q, p)) return false;
        }
        return true;
    }

    boolean allUnder(List<T> a, List<T> b) {
        for (int i = 0; i < a.size(); i++) if (!under(a.get(i), b.get(i))) return false;
        return true;
    }

    T join(T a, T b) {
        if (under(a, b)) return b;
        if (under(b, a)) return a;
        List<T> other = road(b);
        next:
        for (T x : road(a)) {
            T y = find(other, x.code);
            if (y == null) continue;
            List<T> in = new ArrayList<>();
            for (int i = 0; i < x.in.size(); i++) {
                T p = x.in.get(i);
                T q = y.in.get(i);
                switch (hows.get(x.code)[i]) {
                    case 0:
                        if (!p.equals(q)) continue next;
                        in.add(p);
                        break;
                    case 1:
                        in.add(join(p, q));
                        break;
                    default:
                        if (under(p, q)) in.add(p);
                        else if (under(q, p)) in.add(q);
                        else continue next;
                }
            }
            return make(x.code, in);
        }
        return ANY;
    }

    static int at(T t, int k) {
        if (t == null || k < 0 || k >= t.size) return -9;
        T at = t;
        long left = k;
        while (left > 0) {
            left--;
            for (T in : at.in) {
                at = in;
                if (left < in.size) break;
                left -= in.size;
            }
        }
        return at.code;
    }

    T typeAt(int type) {
        inside(type, types.size());
        return types.get(type);
    }

    int depth(int type) {
        return typeAt(type).depth();
    }

    boolean isSame(int a, int b) {
        return typeAt(a).equals(typeAt(b));
    }

    boolean isUnder(int a, int b) {
        return under(typeAt(a), typeAt(b));
    }

    int road(int type, int place, int k) {
        List<T> road = road(typeAt(type));
        return at(place < 0 || place >= road.size() ? null : road.get(place), k);
    }

    int join(int a, int b, int k) {
        return at(join(typeAt(a), typeAt(b)), k);
    }

    // ---- METHODS and EXPRESSIONS

    List<Seen> seenBy(T t, int name, int without) {
        List<T> road = road(t);
        List<Seen> seen = new ArrayList<>();
        for (int m = 0; m < methods.size(); m++) {
            Told told = methods.get(m);
            T there = find(road, told.sort);
            if (m == without || told.name != name || there == null) continue;
            List<T> given = new ArrayList<>();
            for (T g : told.given) given.add(put(g, there.in, null));
            seen.add(new Seen(m, road.indexOf(there), given, put(told.result, there.in, null), null));
        }
        return seen;
    }

    void hints(T g, T t, List<T> hints) {
        if (g.code == -3) hints.add(t);
        if (g.code < 0) return;
        T x = find(road(t), g.code);
        for (int i = 0; x != null && i < g.in.size(); i++) hints(g.in.get(i), x.in.get(i), hints);
    }

    /** The METHOD as it is SEEN, with its OWN TYPE; null if it doesn't TAKE these. */
    Seen taking(Seen seen, List<T> taken) {
        if (seen.given.size() != taken.size()) return null;
        Seen at = seen;
        if (methods.get(seen.number).isGeneral) {
            List<T> hints = new ArrayList<>();
            for (int i = 0; i < taken.size(); i++) hints(seen.given.get(i), taken.get(i), hints);
            T own = ANY;
            for (int i = hints.size() - 1; i >= 0; i--) {
                boolean isAbove = true;
                for (T h : hints) isAbove &= under(h, hints.get(i));
                if (isAbove) own = hints.get(i);
            }
            List<T> given = new ArrayList<>();
            for (T g : seen.given) given.add(put(g, null, own));
            at = new Seen(seen.number, seen.place, given, put(seen.result, null, own), own);
        }
        return allUnder(taken, at.given) ? at : null;
    }

    boolean isBetter(Seen a, Seen b) {
        if (!allUnder(a.given, b.given)) return false;
        return !allUnder(b.given, a.given) || a.place < b.place;
    }

    Judged choose(T t, int name, List<T> taken, int without) {
        Judged judged = new Judged();
        judged.type = NOTHING;
        List<Seen> taking = new ArrayList<>();
        for (Seen s : seenBy(t, name, without)) {
            judged.seen++;
            Seen at = taking(s, taken);
            if (at != null) taking.add(at);
        }
        judged.taking = taking.size();
        for (Seen a : taking) {
            boolean isBest = true;
            for (Seen b : taking) isBest &= a == b || isBetter(a, b);
            if (!isBest) continue;
            judged.chosen = a.number;
            judged.type = a.result;
            judged.own = a.own;
        }
        judged.fault = judged.seen == 0 ? 1 : judged.taking == 0 ? 2 : judged.chosen < 0 ? 3 : 0;
        return judged;
    }

    List<Judged> judge(int without) {
        List<Judged> all = new ArrayList<>();
        for (Said s : said) {
            boolean isFaulty = false;
            List<T> parts = new ArrayList<>();
            for (int p : s.parts) {
                isFaulty |= all.get(p).isFaulty;
                parts.add(all.get(p).type);
            }
            Judged judged = new Judged();
            if (s.kind == 3 && !isFaulty) {
                judged = choose(parts.get(0), s.name, parts.subList(1, parts.size()), without);
            } else {
                judged.type = s.kind == 3 ? NOTHING : s.kind == 1 ? join(parts.get(0), parts.get(1)) : s.told;
                if (s.kind == 2 && !under(parts.get(0), s.told)) judged.fault = 4;
            }
            judged.isFaulty = isFaulty || judged.fault != 0;
            all.add(judged);
        }
        return all;
    }

    Judged judged(int expression) {
        inside(expression, said.size());
        return judge(-1).get(expression);
    }

    int line(int expression, int k) {
        return at(judged(expression).type, k);
    }

    int seen(int expression) {
        return judged(expression).seen;
    }

    int taking(int expression) {
        return judged(expression).taking;
    }

    int chosen(int expression) {
        return judged(expression).chosen;
    }

    int own(int expression, int k) {
        return at(judged(expression).own, k);
    }

    // ---- FAULTS and FLAWS

    List<int[]> faultsNoted(int without) {
        List<int[]> faults = new ArrayList<>();
        List<Judged> all = judge(without);
        for (int i = 0; i < all.size(); i++) if (all.get(i).fault != 0) faults.add(new int[] {i, all.get(i).fault});
        return faults;
    }

    int faults() {
        return faultsNoted(-1).size();
    }

    int ofFault(int fault, int what) {
        List<int[]> faults = faultsNoted(-1);
        inside(fault, faults.size());
        if (what < 0 || what > 1) throw new IllegalArgumentException();
        return faults.get(fault)[what];
    }

    boolean isFaulty(int expression) {
        return judged(expression).isFaulty;
    }

    /** The stand is 1 OUTWARD, -1 INWARD, 0 FIXED. */
    boolean isBad(T t, int stand, int sort) {
        if (t.code == -4 || t.code == -5) {
            int how = hows.get(sort)[-4 - t.code];
            return how == 1 && stand != 1 || how == 2 && stand != -1;
        }
        boolean isBad = false;
        for (int i = 0; i < t.in.size(); i++) {
            int how = hows.get(t.code)[i];
            isBad |= isBad(t.in.get(i), how == 0 ? 0 : how == 1 ? stand : -stand, sort);
        }
        return isBad;
    }

    List<int[]> flawsNoted() {
        List<int[]> flaws = new ArrayList<>();
        for (int s = 0; s < hows.size(); s++) {
            for (int p = 0; p < parents.get(s).size(); p++) {
                if (isBad(parents.get(s).get(p), 1, s)) flaws.add(new int[] {s, 1, p});
            }
            List<T> self = new ArrayList<>();
            for (int p = 0; p < hows.get(s).length; p++) self.add(make(-4 - p, List.of()));
            List<T> way = new ArrayList<>();
            climb(make(s, self), way, true);
            boolean isMixed = false;
            for (T a : way) for (T b : way) isMixed |= a.code == b.code && !a.equals(b);
            if (isMixed) flaws.add(new int[] {s, 2, -1});
            for (int m = 0; m < methods.size(); m++) {
                Told told = methods.get(m);
                if (told.sort != s) continue;
                boolean isBad = isBad(told.result, 1, s);
                for (T g : told.given) isBad |= isBad(g, -1, s);
                if (isBad) flaws.add(new int[] {s, 3, m});
            }
        }
        return flaws;
    }

    int flaws() {
        return flawsNoted().size();
    }

    int ofFlaw(int flaw, int what) {
        List<int[]> flaws = flawsNoted();
        inside(flaw, flaws.size());
        if (what < 0 || what > 2) throw new IllegalArgumentException();
        return flaws.get(flaw)[what];
    }

    // ---- what would be

    int wouldChoose(int type, int name, int one, int other) {
        inside(type, types.size());
        for (int t : new int[] {one, other}) if (t != -1) inside(t, types.size());
        if (name < 0 || name > 9) throw new IllegalArgumentException();
        List<T> taken = told(one, other);
        for (T t : taken) if (!t.isClosed()) throw new IllegalArgumentException();
        if (!types.get(type).isClosed()) throw new IllegalArgumentException();
        Judged judged = choose(types.get(type), name, taken, -1);
        return judged.fault == 0 ? judged.chosen : -judged.fault;
    }

    int faultsWithout(int method) {
        inside(method, methods.size());
        return faultsNoted(method).size();
    }

    int faultsWith(int sort, int parameter, int how) {
        return with(sort, parameter, how, true);
    }

    int flawsWith(int sort, int parameter, int how) {
        return with(sort, parameter, how, false);
    }

    int with(int sort, int parameter, int how, boolean isOfFaults) {
        inside(sort, hows.size());
        inside(parameter, hows.get(sort).length);
        if (how < 0 || how > 2) throw new IllegalArgumentException();
        int before = hows.get(sort)[parameter];
        hows.get(sort)[parameter] = how;
        int count = isOfFaults ? faults() : flaws();
        hows.get(sort)[parameter] = before;
        return count;
    }

    double meanDepth() {
        int sum = 0;
        for (Judged j : judge(-1)) sum += j.type.depth();
        return said.isEmpty() ? 0 : (double) sum / said.size();
    }

    long digest() {
        List<Long> all = new ArrayList<>();
        for (int i = 0; i < 4; i++) all.add((long) many(i));
        List<int[]> faults = faultsNoted(-1);
        List<int[]> flaws = flawsNoted();
        all.add((long) faults.size());
        all.add((long) flaws.size());
        for (T t : types) {
            all.add((long) t.depth());
            List<T> road = road(t);
            for (int k = 0; k < 4; k++) all.add((long) at(road.size() < 2 ? null : road.get(1), k));
        }
        for (Judged j : judge(-1)) {
            for (int k = 0; k < 6; k++) all.add((long) at(j.type, k));
            all.add((long) j.seen);
            all.add((long) j.taking);
            all.add((long) j.chosen);
            all.add((long) at(j.own, 0));
            all.add(j.isFaulty ? 1L : 0L);
        }
        for (int[] f : faults) for (int x : f) all.add((long) x);
        for (int[] f : flaws) for (int x : f) all.add((long) x);
        long d = 58064;
        for (long x : all) d = d * 31 + x;
        return d;
    }
}
