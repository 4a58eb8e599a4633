import java.util.ArrayList;
import java.util.HashMap;
import java.util.List;
import java.util.Map;
import java.util.TreeMap;
import java.util.TreeSet;
import java.util.function.BiFunction;

/**
 * The document written down a second time, as trees and by recursion, with no eye to cost: what the
 * class answers is held against this. It has the face of the class and shares no code with it.
 */
public final class PlainBench {
    static final int NONE = -1, INT = -1, NEVER = -2;
    static final int CLASH = -1, CAPTURE = -2, OVERRIDDEN = -3, RECURSIVE = -4, OUTPUT = -5, TOO_MANY = -6;
    static final int EFFECT = -7, INVISIBLE = -8, USED = -9, NOT_THAT = -10, CHANGES = -11;

    enum Kind { NUMBER, VAR, THIS, FIELD, PUT, LET, SET, CALL, MAKE, SEQ, TEST, TWO, RAISE, GUARD }

    /** What a name stands for: a LET, a parameter, a field or a method; only one of these is there. */
    record Bound(Node let, int parameter, int fieldClass, int method) {
        boolean isLocal() { return let != null || parameter >= 0; }
        boolean isField() { return fieldClass >= 0; }
        static Bound toLet(Node let) { return new Bound(let, -1, -1, -1); }
        static Bound toParameter(int p) { return new Bound(null, p, -1, -1); }
        static Bound toField(int c) { return new Bound(null, -1, c, -1); }
        static Bound toMethod(int m) { return new Bound(null, -1, -1, m); }
        boolean same(Bound o) { return let == o.let && parameter == o.parameter && fieldClass == o.fieldClass && method == o.method; }
    }

    static final class Node {
        final Kind kind;
        final int value;
        final List<Node> parts;
        int type;
        Bound bound;
        Node parent;

        Node(Kind kind, int value, List<Node> parts) { this.kind = kind; this.value = value; this.parts = parts; }
        static Node of(Kind kind, int value, Node... parts) { return new Node(kind, value, List.of(parts)); }
        Node with(int itsValue, List<Node> itsParts) { return new Node(kind, itsValue, itsParts); }
        Node copy() { return map(this, (n, parts) -> n.with(n.value, parts)); }
        long size() { long s = 1; for (Node p : parts) s += p.size(); return s; }
        List<Node> all() { List<Node> out = new ArrayList<>(); collect(out); return out; }
        private void collect(List<Node> out) { out.add(this); for (Node p : parts) p.collect(out); }
        boolean hasName() { return kind == Kind.VAR || kind == Kind.SET || kind == Kind.FIELD || kind == Kind.PUT || kind == Kind.LET || kind == Kind.CALL; }
        boolean isVariable() { return kind == Kind.VAR || kind == Kind.SET; }
        void adopt(Node above) { parent = above; for (Node p : parts) p.adopt(this); }
        boolean isWithin(Node root) { for (Node n = this; n != null; n = n.parent) if (n == root) return true; return false; }
        /** The LETs in whose b this stands, innermost first. */
        List<Node> letsAround() {
            List<Node> out = new ArrayList<>();
            for (Node n = this; n.parent != null; n = n.parent) if (n.parent.kind == Kind.LET && n.parent.parts.get(1) == n) out.add(n.parent);
            return out;
        }
    }

    /** Makes a tree anew from the bottom; the function gets the old node and its new parts. */
    static Node map(Node n, BiFunction<Node, List<Node>, Node> f) {
        List<Node> parts = new ArrayList<>();
        for (Node p : n.parts) parts.add(map(p, f));
        return f.apply(n, parts);
    }

    record Param(int name, int type) { }

    static final class Meth {
        int of, name, returns;
        List<Param> params = new ArrayList<>();
        Node body;
        Meth copy() {
            Meth m = new Meth();
            m.of = of; m.name = name; m.returns = returns; m.params = new ArrayList<>(params); m.body = body.copy();
            return m;
        }
    }

    static final class Prog {
        List<Integer> parents = new ArrayList<>();
        List<TreeMap<Integer, Integer>> fields = new ArrayList<>();
        TreeMap<Integer, Meth> methods = new TreeMap<>();
        int given;

        Prog copy() {
            Prog p = new Prog();
            p.parents.addAll(parents);
            for (TreeMap<Integer, Integer> f : fields) p.fields.add(new TreeMap<>(f));
            for (Map.Entry<Integer, Meth> e : methods.entrySet()) p.methods.put(e.getKey(), e.getValue().copy());
            p.given = given;
            return p;
        }

        boolean below(int a, int b) { for (int c = a; c != NONE; c = parents.get(c)) if (c == b) return true; return false; }
        boolean akin(int a, int b) { return below(a, b) || below(b, a); }
        boolean fits(int a, int b) { return a == NEVER || a == b || (a >= 0 && b >= 0 && below(a, b)); }

        int fieldClass(int of, int name) {
            for (int c = of; c != NONE; c = parents.get(c)) if (fields.get(c).containsKey(name)) return c;
            return NONE;
        }

        int inClass(int of, int name, int arity) {
            for (int m : methods.keySet()) { Meth x = methods.get(m); if (x.of == of && x.name == name && x.params.size() == arity) return m; }
            return NONE;
        }

        int lookUp(int of, int name, int arity) {
            for (int c = of; c != NONE; c = parents.get(c)) { int m = inClass(c, name, arity); if (m != NONE) return m; }
            return NONE;
        }

        boolean overrides(Meth a, Meth b) { return a.name == b.name && a.params.size() == b.params.size() && a.of != b.of && below(a.of, b.of); }

        int wrong() {
            for (int m : methods.keySet()) {
                Meth x = methods.get(m);
                x.body.adopt(null);
                int t = typeOf(x, x.body);
                if (t == Integer.MIN_VALUE || !fits(t, x.returns)) return m;
                for (Meth o : methods.values()) {
                    if (!overrides(x, o)) continue;
                    if (x.returns != o.returns) return m;
                    for (int i = 0; i < x.params.size(); i++) if (x.params.get(i).type() != o.params.get(i).type()) return m;
                }
            }
            return NONE;
        }

        /** The type of a node; Integer.MIN_VALUE if something in it is not right. */
        int typeOf(Meth m, Node n) {
            n.bound = null;
            n.type = Integer.MIN_VALUE;
            List<Integer> t = new ArrayList<>();
            for (Node p : n.parts) { int x = typeOf(m, p); if (x == Integer.MIN_VALUE) return x; t.add(x); }
            n.type = ofParts(m, n, t);
            return n.type;
        }

        private int ofParts(Meth m, Node n, List<Integer> t) {
            int bad = Integer.MIN_VALUE;
            switch (n.kind) {
                case NUMBER: return INT;
                case THIS: return m.of;
                case MAKE: return n.value;
                case LET: case SEQ: return t.get(1);
                case RAISE: return fits(t.get(0), INT) ? NEVER : bad;
                case TWO: return fits(t.get(0), INT) && fits(t.get(1), INT) ? INT : bad;
                case GUARD: return either(t.get(0), t.get(1));
                case TEST: return fits(t.get(0), INT) ? either(t.get(1), t.get(2)) : bad;
                case VAR: case SET: {
                    n.bound = variable(m, n);
                    if (n.bound == null) return bad;
                    int type = typeOfBound(m, n.bound, n.value);
                    return n.kind == Kind.VAR || fits(t.get(0), type) ? type : bad;
                }
                case FIELD: case PUT: {
                    if (t.get(0) < 0) return bad;
                    int c = fieldClass(t.get(0), n.value);
                    if (c == NONE) return bad;
                    n.bound = Bound.toField(c);
                    int type = fields.get(c).get(n.value);
                    return n.kind == Kind.FIELD || fits(t.get(1), type) ? type : bad;
                }
                default: {
                    if (t.get(0) < 0) return bad;
                    int c = lookUp(t.get(0), n.value, t.size() - 1);
                    if (c == NONE) return bad;
                    n.bound = Bound.toMethod(c);
                    for (int i = 1; i < t.size(); i++) if (!fits(t.get(i), methods.get(c).params.get(i - 1).type())) return bad;
                    return methods.get(c).returns;
                }
            }
        }

        private int either(int a, int b) { return fits(b, a) ? a : fits(a, b) ? b : Integer.MIN_VALUE; }

        private Bound variable(Meth m, Node n) {
            for (Node let : n.letsAround()) if (let.value == n.value) return Bound.toLet(let);
            for (int i = 0; i < m.params.size(); i++) if (m.params.get(i).name() == n.value) return Bound.toParameter(i);
            int c = fieldClass(m.of, n.value);
            return c == NONE ? null : Bound.toField(c);
        }

        int typeOfBound(Meth m, Bound b, int name) {
            if (b.let() != null) return b.let().parts.get(0).type;
            if (b.parameter() >= 0) return m.params.get(b.parameter()).type();
            return fields.get(b.fieldClass()).get(name);
        }

        TreeSet<Integer> family(int m) {
            TreeSet<Integer> out = new TreeSet<>();
            join(m, out);
            return out;
        }

        private void join(int m, TreeSet<Integer> out) {
            if (!out.add(m)) return;
            Meth x = methods.get(m);
            for (int o : methods.keySet()) {
                Meth y = methods.get(o);
                if (y.name == x.name && y.params.size() == x.params.size() && akin(x.of, y.of)) join(o, out);
            }
        }

        boolean hasAkinMethod(int of, int name, int arity) {
            for (Meth x : methods.values()) if (x.name == name && x.params.size() == arity && akin(x.of, of)) return true;
            return false;
        }

        boolean isFree(TreeSet<Integer> family, int name, int arity) {
            for (int m : family) if (hasAkinMethod(methods.get(m).of, name, arity)) return false;
            return true;
        }

        boolean hasAkinField(int of, int name) {
            for (int c = 0; c < parents.size(); c++) if (akin(c, of) && fields.get(c).containsKey(name)) return true;
            return false;
        }

        TreeSet<Integer> names(Meth... of) {
            TreeSet<Integer> out = new TreeSet<>();
            for (Meth m : of) {
                for (Param p : m.params) out.add(p.name());
                for (Node n : m.body.all()) if (n.hasName()) out.add(n.value);
            }
            return out;
        }

        /** Those to which the CALLs of a method may lead at once. */
        TreeSet<Integer> leads(int m) {
            TreeSet<Integer> out = new TreeSet<>();
            for (Node n : methods.get(m).body.all()) {
                if (n.kind != Kind.CALL) continue;
                out.add(n.bound.method());
                for (int o : methods.keySet()) {
                    Meth x = methods.get(o);
                    if (overrides(x, methods.get(n.bound.method())) && below(x.of, n.parts.get(0).type)) out.add(o);
                }
            }
            return out;
        }

        TreeSet<Integer> reached(int m) {
            TreeSet<Integer> out = new TreeSet<>();
            visit(m, out);
            return out;
        }

        private void visit(int m, TreeSet<Integer> out) {
            for (int o : leads(m)) if (out.add(o)) visit(o, out);
        }

        boolean isTooLarge() {
            if (given > 24) return true;
            for (Meth m : methods.values()) if (m.body.size() > 60) return true;
            return false;
        }
    }

    private final List<Node> told = new ArrayList<>();
    private Prog now = new Prog();
    private Prog begun;
    private final List<Prog> past = new ArrayList<>();
    private int lastValue;
    private int lastSteps;

    // ---- nodes

    private int tellNode(Node n) {
        if (told.size() >= 150) throw new IllegalStateException();
        told.add(n);
        return told.size() - 1;
    }
    private Node at(int n) { if (n < 0 || n >= told.size()) throw new IndexOutOfBoundsException(); return told.get(n); }
    private static void name(int name) { if (name < 0 || name > 15) throw new IllegalArgumentException(); }

    public int number(int number) { return tellNode(Node.of(Kind.NUMBER, number)); }
    public int var(int name) { name(name); return tellNode(Node.of(Kind.VAR, name)); }
    public int self() { return tellNode(Node.of(Kind.THIS, 0)); }
    public int field(int object, int name) { Node o = at(object); name(name); return tellNode(Node.of(Kind.FIELD, name, o)); }
    public int put(int object, int name, int value) { Node o = at(object), v = at(value); name(name); return tellNode(Node.of(Kind.PUT, name, o, v)); }
    public int let(int name, int value, int body) {
        Node v = at(value);
        Node b = body == NONE ? null : at(body);
        name(name);
        return tellNode(b == null ? Node.of(Kind.SET, name, v) : Node.of(Kind.LET, name, v, b));
    }
    public int call(int object, int name, int first, int second) {
        Node o = at(object);
        Node a = first == NONE ? null : at(first);
        Node b = second == NONE ? null : at(second);
        name(name);
        if (a == null && b != null) throw new IllegalArgumentException();
        if (a == null) return tellNode(Node.of(Kind.CALL, name, o));
        return tellNode(b == null ? Node.of(Kind.CALL, name, o, a) : Node.of(Kind.CALL, name, o, a, b));
    }
    public int make(int of) { aClass(now, of); return tellNode(Node.of(Kind.MAKE, of)); }
    public int two(int kind, int first, int second) {
        Node a = at(first), b = at(second);
        if (kind < 0 || kind > 5) throw new IllegalArgumentException();
        return tellNode(kind == 0 ? Node.of(Kind.SEQ, 0, a, b) : kind == 1 ? Node.of(Kind.GUARD, 0, a, b) : Node.of(Kind.TWO, kind - 2, a, b));
    }
    public int test(int condition, int so, int not) { return tellNode(Node.of(Kind.TEST, 0, at(condition), at(so), at(not))); }
    public int raise(int number) { return tellNode(Node.of(Kind.RAISE, 0, at(number))); }

    // ---- the program

    private static void aClass(Prog p, int of) { if (of < 0 || of >= p.parents.size()) throw new IndexOutOfBoundsException(); }
    private void aType(int type) { if (type != INT) aClass(now, type); }

    public int classOf(int parent) {
        if (parent != NONE) aClass(now, parent);
        if (now.parents.size() == 6) throw new IllegalStateException();
        now.parents.add(parent);
        now.fields.add(new TreeMap<>());
        past.clear();
        return now.parents.size() - 1;
    }
    public int fieldOf(int of, int name, int type) {
        aClass(now, of);
        aType(type);
        name(name);
        if (now.hasAkinField(of, name)) throw new IllegalStateException();
        now.fields.get(of).put(name, type);
        past.clear();
        return now.fields.get(of).size();
    }
    public int method(int of, int name, int first, int second, int returns, int body) {
        aClass(now, of);
        if (first >= 0) aType(first / 100 - 1);
        if (second >= 0) aType(second / 100 - 1);
        aType(returns);
        Node b = at(body);
        name(name);
        if (first < NONE || second < NONE) throw new IllegalArgumentException();
        if (first >= 0) name(first % 100);
        if (second >= 0) name(second % 100);
        if (second != NONE && (first == NONE || first % 100 == second % 100)) throw new IllegalArgumentException();
        int arity = first == NONE ? 0 : second == NONE ? 1 : 2;
        if (sizeUpTo(b, 61) > 60 || now.inClass(of, name, arity) != NONE || now.given >= 24) throw new IllegalStateException();
        Meth m = new Meth();
        m.of = of; m.name = name; m.returns = returns; m.body = b.copy();
        if (first >= 0) m.params.add(new Param(first % 100, first / 100 - 1));
        if (second >= 0) m.params.add(new Param(second % 100, second / 100 - 1));
        now.methods.put(now.given, m);
        past.clear();
        return now.given++;
    }
    private static int sizeUpTo(Node n, int most) {
        int s = 1;
        for (Node p : n.parts) { if (s >= most) return s; s += sizeUpTo(p, most - s); }
        return s;
    }
    public int wrong() { return now.wrong(); }
    public int begin() {
        right(now);
        begun = now.copy();
        past.clear();
        return now.methods.size();
    }

    // ---- changing

    private static void right(Prog p) { if (p.wrong() != NONE) throw new IllegalStateException(); }
    private Meth meth(int m) { if (!now.methods.containsKey(m)) throw new IndexOutOfBoundsException(); return now.methods.get(m); }
    private Node place(Meth m, int place) {
        List<Node> all = m.body.all();
        if (place < 0 || place >= all.size()) throw new IndexOutOfBoundsException();
        return all.get(place);
    }
    private void ownField(int of, int field) { aClass(now, of); if (!now.fields.get(of).containsKey(field)) throw new IndexOutOfBoundsException(); }

    /** Takes over what was planned, if it is not too large. */
    private int done(Prog planned, int answer) {
        if (planned.isTooLarge()) return TOO_MANY;
        if (planned.wrong() != NONE) throw new AssertionError("a change left a program that is not right");
        past.add(now);
        if (past.size() > 10) past.remove(0);
        now = planned;
        return answer;
    }

    private static Node plain(Node n, int name, List<Node> parts) {
        List<Node> all = new ArrayList<>();
        all.add(Node.of(Kind.THIS, 0));
        all.addAll(parts);
        return new Node(n.kind == Kind.VAR ? Kind.FIELD : Kind.PUT, name, all);
    }

    /** Whether where a node stands a local has a name. */
    private static boolean localAround(Meth m, Node n, int name) {
        for (Node let : n.letsAround()) if (let.value == name) return true;
        for (Param p : m.params) if (p.name() == name) return true;
        return false;
    }

    /** A copy of the program with all bodies made anew. */
    private Prog rewritten(Map<Integer, BiFunction<Node, List<Node>, Node>> special, BiFunction<Node, List<Node>, Node> usual) {
        Prog p = now.copy();
        for (int m : now.methods.keySet()) p.methods.get(m).body = map(now.methods.get(m).body, special.getOrDefault(m, usual));
        return p;
    }

    private static Node same(Node n, List<Node> parts) { return n.with(n.value, parts); }

    public int renameMethod(int method, int name) {
        Meth x = meth(method);
        name(name);
        if (name == x.name) throw new IllegalArgumentException();
        right(now);
        TreeSet<Integer> family = now.family(method);
        if (!now.isFree(family, name, x.params.size())) return CLASH;
        int[] count = {0};
        Prog p = rewritten(Map.of(), (n, parts) -> {
            if (n.kind != Kind.CALL || !family.contains(n.bound.method())) return same(n, parts);
            count[0]++;
            return n.with(name, parts);
        });
        for (int m : family) p.methods.get(m).name = name;
        return done(p, count[0]);
    }

    public int renameField(int of, int field, int name) {
        ownField(of, field);
        name(name);
        if (name == field) throw new IllegalArgumentException();
        right(now);
        if (now.hasAkinField(of, name)) return CLASH;
        int[] count = {0};
        Map<Integer, BiFunction<Node, List<Node>, Node>> each = new HashMap<>();
        for (int m : now.methods.keySet()) {
            Meth x = now.methods.get(m);
            each.put(m, (n, parts) -> {
                if (n.bound == null || n.bound.fieldClass() != of || n.value != field) return same(n, parts);
                count[0]++;
                return n.isVariable() && localAround(x, n, name) ? plain(n, name, parts) : n.with(name, parts);
            });
        }
        Prog p = rewritten(each, PlainBench::same);
        p.fields.get(of).put(name, p.fields.get(of).remove(field));
        return done(p, count[0]);
    }

    public int renameLocal(int method, int place, int name) {
        Meth x = meth(method);
        Node let = null;
        int own = NONE;
        if (place < 0) {
            if (-1L - place >= x.params.size()) throw new IndexOutOfBoundsException();
            own = x.params.get(-1 - place).name();
        } else {
            let = place(x, place);
            if (let.kind == Kind.LET) own = let.value;
        }
        name(name);
        if (name == own) throw new IllegalArgumentException();
        right(now);
        if (let != null && let.kind != Kind.LET) return NOT_THAT;
        if (let == null) for (Param p : x.params) if (p.name() == name) return CLASH;
        Bound it = let != null ? Bound.toLet(let) : Bound.toParameter(-1 - place);
        Node scope = let == null ? x.body : let.parts.get(1);
        for (Node n : scope.all()) {
            if (!n.isVariable()) continue;
            boolean isOther = n.bound.isLocal() && !n.bound.same(it) && n.value == name;
            boolean isAround = n.bound.parameter() >= 0 || (n.bound.let() != null && !n.bound.let().isWithin(scope));
            if (isOther && isAround) return CAPTURE;
            if (!n.bound.same(it)) continue;
            for (Node l : n.letsAround()) if (l.value == name && l.isWithin(scope)) return CAPTURE;
        }
        int[] count = {0};
        Node theLet = let;
        Prog p = rewritten(Map.of(method, (n, parts) -> {
            if (n == theLet) return n.with(name, parts);
            if (!n.isVariable() || !n.isWithin(scope)) return same(n, parts);
            if (n.bound.same(it)) { count[0]++; return n.with(name, parts); }
            return n.value == name && n.bound.isField() ? plain(n, name, parts) : same(n, parts);
        }), PlainBench::same);
        if (let == null) p.methods.get(method).params.set(-1 - place, new Param(name, x.params.get(-1 - place).type()));
        return done(p, count[0]);
    }

    private static int fresh(TreeSet<Integer> used) {
        for (int i = 0; i < 16; i++) if (!used.contains(i)) return i;
        return NONE;
    }

    public int inline(int method, int place) {
        Meth x = meth(method);
        Node call = place(x, place);
        right(now);
        if (call.kind != Kind.CALL || call.parts.get(0).kind != Kind.THIS) return NOT_THAT;
        int arity = call.parts.size() - 1;
        for (Meth o : now.methods.values()) if (o.of != x.of && now.below(o.of, x.of) && o.name == call.value && o.params.size() == arity) return OVERRIDDEN;
        int callee = call.bound.method();
        if (now.reached(callee).contains(callee)) return RECURSIVE;
        Meth c = now.methods.get(callee);
        TreeSet<Integer> used = now.names(x, c);
        List<Integer> fresh = new ArrayList<>();
        for (int i = 0; i < arity; i++) {
            int name = fresh(used);
            if (name == NONE) return TOO_MANY;
            fresh.add(name);
            used.add(name);
        }
        Node in = map(c.body, (n, parts) -> {
            if (!n.isVariable()) return same(n, parts);
            if (n.bound.parameter() >= 0) return n.with(fresh.get(n.bound.parameter()), parts);
            return n.bound.isField() && localAround(x, call, n.value) ? plain(n, n.value, parts) : same(n, parts);
        });
        for (int i = arity; i >= 1; i--) in = Node.of(Kind.LET, fresh.get(i - 1), call.parts.get(i).copy(), in);
        Node inlined = in;
        Prog p = rewritten(Map.of(method, (n, parts) -> n == call ? inlined : same(n, parts)), PlainBench::same);
        if (p.wrong() != NONE) return INVISIBLE;
        return done(p, (int) Math.min(1000, p.methods.get(method).body.size()));
    }

    /** Those outside to which something in a node is bound, in the order in which they come first. */
    private static List<Bound> locals(Node root) {
        List<Bound> out = new ArrayList<>();
        for (Node n : root.all()) if (isOuter(n, root) && find(out, n.bound) < 0) out.add(n.bound);
        return out;
    }
    private static boolean isOuter(Node n, Node root) {
        return n.isVariable() && n.bound.isLocal() && (n.bound.let() == null || !n.bound.let().isWithin(root));
    }
    private static int find(List<Bound> in, Bound b) {
        for (int i = 0; i < in.size(); i++) if (in.get(i).same(b)) return i;
        return -1;
    }
    private static int nameOf(Meth m, Bound b) { return b.let() != null ? b.let().value : m.params.get(b.parameter()).name(); }

    public int extract(int method, int place, int name) {
        Meth x = meth(method);
        Node root = place(x, place);
        name(name);
        right(now);
        if (root.type == NEVER) return NOT_THAT;
        List<Bound> locals = locals(root);
        for (Node n : root.all()) if (n.kind == Kind.SET && isOuter(n, root)) return OUTPUT;
        if (locals.size() > 2) return TOO_MANY;
        if (now.hasAkinMethod(x.of, name, locals.size())) return CLASH;
        int[] count = {0};
        Prog p = now.copy();
        for (int m : now.methods.keySet()) {
            Meth y = now.methods.get(m);
            if (y.of == x.of) p.methods.get(m).body = withCalls(y.body, root, x, y, name, count);
        }
        Meth added = new Meth();
        added.of = x.of;
        added.name = name;
        added.returns = root.type;
        added.body = root.copy();
        for (Bound b : locals) added.params.add(new Param(nameOf(x, b), now.typeOfBound(x, b, 0)));
        p.methods.put(p.given, added);
        p.given++;
        return done(p, 100 * now.given + count[0]);
    }

    private Node withCalls(Node n, Node root, Meth x, Meth y, int name, int[] count) {
        if (areAlike(root, n, x, y)) {
            count[0]++;
            List<Node> parts = new ArrayList<>();
            parts.add(Node.of(Kind.THIS, 0));
            for (Bound b : locals(n)) parts.add(Node.of(Kind.VAR, nameOf(y, b)));
            return new Node(Kind.CALL, name, parts);
        }
        List<Node> parts = new ArrayList<>();
        for (Node q : n.parts) parts.add(withCalls(q, root, x, y, name, count));
        return n.with(n.value, parts);
    }

    private boolean areAlike(Node a, Node b, Meth x, Meth y) {
        List<Bound> mine = locals(a), other = locals(b);
        if (mine.size() != other.size()) return false;
        for (int i = 0; i < mine.size(); i++) if (now.typeOfBound(x, mine.get(i), 0) != now.typeOfBound(y, other.get(i), 0)) return false;
        List<Node> as = a.all(), bs = b.all();
        if (as.size() != bs.size()) return false;
        for (int i = 0; i < as.size(); i++) {
            Node p = as.get(i), q = bs.get(i);
            if (p.kind != q.kind || p.parts.size() != q.parts.size() || isOuter(p, a) != isOuter(q, b)) return false;
            if (isOuter(p, a) ? q.kind == Kind.SET || find(mine, p.bound) != find(other, q.bound) : p.value != q.value) return false;
        }
        return true;
    }

    public int addParameter(int method, int number) {
        Meth x = meth(method);
        right(now);
        if (x.params.size() == 2) return TOO_MANY;
        TreeSet<Integer> family = now.family(method);
        if (!now.isFree(family, x.name, x.params.size() + 1)) return CLASH;
        int[] count = {0};
        Prog p = rewritten(Map.of(), (n, parts) -> {
            if (n.kind != Kind.CALL || !family.contains(n.bound.method())) return same(n, parts);
            count[0]++;
            List<Node> more = new ArrayList<>(parts);
            more.add(Node.of(Kind.NUMBER, number));
            return n.with(n.value, more);
        });
        for (int m : family) {
            int fresh = fresh(now.names(now.methods.get(m)));
            if (fresh == NONE) return TOO_MANY;
            p.methods.get(m).params.add(new Param(fresh, INT));
        }
        return done(p, count[0]);
    }

    private static boolean isPlain(Node n) {
        switch (n.kind) {
            case NUMBER: case VAR: case THIS: return true;
            case FIELD: return n.parts.get(0).kind == Kind.THIS;
            case TWO: return isPlain(n.parts.get(0)) && isPlain(n.parts.get(1));
            default: return false;
        }
    }

    public int dropParameter(int method, int parameter) {
        Meth x = meth(method);
        if (parameter < 0 || parameter >= x.params.size()) throw new IndexOutOfBoundsException();
        right(now);
        TreeSet<Integer> family = now.family(method);
        for (int m : family) for (Node n : now.methods.get(m).body.all()) if (n.isVariable() && n.bound.parameter() == parameter) return USED;
        if (!now.isFree(family, x.name, x.params.size() - 1)) return CLASH;
        for (Meth m : now.methods.values()) {
            for (Node n : m.body.all()) {
                if (n.kind == Kind.CALL && family.contains(n.bound.method()) && !isPlain(n.parts.get(1 + parameter))) return EFFECT;
            }
        }
        int[] count = {0};
        Prog p = rewritten(Map.of(), (n, parts) -> {
            if (n.kind != Kind.CALL || !family.contains(n.bound.method())) return same(n, parts);
            count[0]++;
            List<Node> fewer = new ArrayList<>(parts);
            fewer.remove(1 + parameter);
            return n.with(n.value, fewer);
        });
        for (int m : family) p.methods.get(m).params.remove(parameter);
        return done(p, count[0]);
    }

    public int pullUp(int method) {
        Meth x = meth(method);
        right(now);
        int parent = now.parents.get(x.of);
        if (parent == NONE) return NOT_THAT;
        if (now.inClass(parent, x.name, x.params.size()) != NONE) return CLASH;
        for (int c = now.parents.get(parent); c != NONE; c = now.parents.get(c)) if (now.inClass(c, x.name, x.params.size()) != NONE) return CHANGES;
        Prog p = now.copy();
        p.methods.get(method).of = parent;
        if (p.wrong() != NONE) return INVISIBLE;
        return done(p, parent);
    }

    public int pushDown(int method) {
        Meth x = meth(method);
        right(now);
        List<Integer> children = new ArrayList<>();
        for (int c = 0; c < now.parents.size(); c++) if (now.parents.get(c) == x.of) children.add(c);
        if (children.isEmpty()) return NOT_THAT;
        for (Meth m : now.methods.values()) {
            for (Node n : m.body.all()) {
                if (n.kind == Kind.MAKE && n.value == x.of) return USED;
                if (n.kind == Kind.CALL && n.bound.method() == method && n.parts.get(0).type == x.of) return USED;
            }
        }
        for (int c = now.parents.get(x.of); c != NONE; c = now.parents.get(c)) if (now.inClass(c, x.name, x.params.size()) != NONE) return CHANGES;
        children.removeIf(c -> now.inClass(c, x.name, x.params.size()) != NONE);
        Prog p = now.copy();
        Meth gone = p.methods.remove(method);
        for (int i = 0; i < children.size(); i++) {
            Meth m = gone.copy();
            m.of = children.get(i);
            if (i == 0) p.methods.put(method, m);
            else p.methods.put(p.given++, m);
        }
        if (p.given > 24) return TOO_MANY;
        if (p.wrong() != NONE) return INVISIBLE;
        return done(p, children.size());
    }

    public int enclose(int of, int field, int getter, int setter) {
        ownField(of, field);
        name(getter);
        name(setter);
        right(now);
        if (now.hasAkinMethod(of, getter, 0) || now.hasAkinMethod(of, setter, 1)) return CLASH;
        int type = now.fields.get(of).get(field);
        int[] count = {0};
        Prog p = rewritten(Map.of(), (n, parts) -> {
            boolean isAccess = n.kind == Kind.FIELD || n.kind == Kind.PUT;
            if (!isAccess || n.bound.fieldClass() != of || n.value != field || n.parts.get(0).kind == Kind.THIS) return same(n, parts);
            count[0]++;
            return new Node(Kind.CALL, n.kind == Kind.FIELD ? getter : setter, parts);
        });
        Meth get = new Meth();
        get.of = of; get.name = getter; get.returns = type; get.body = Node.of(Kind.VAR, field);
        Meth set = new Meth();
        int parameter = field == 0 ? 1 : 0;
        set.of = of; set.name = setter; set.returns = type;
        set.params.add(new Param(parameter, type));
        set.body = Node.of(Kind.SET, field, Node.of(Kind.VAR, parameter));
        p.methods.put(p.given++, get);
        p.methods.put(p.given++, set);
        return done(p, count[0]);
    }

    public int removeDead(int method) {
        meth(method);
        right(now);
        TreeSet<Integer> kept = now.reached(method);
        kept.add(method);
        Prog p = now.copy();
        p.methods.keySet().retainAll(kept);
        return done(p, now.methods.size() - p.methods.size());
    }

    public int undo() {
        if (past.isEmpty()) throw new IllegalStateException();
        now = past.remove(past.size() - 1);
        return past.size();
    }

    // ---- questions

    public int tell(int method, int what) {
        Meth x = meth(method);
        switch (what) {
            case 0: return x.of;
            case 1: return x.name;
            case 2: return x.params.size();
            case 3: return x.params.size() > 0 ? x.params.get(0).name() : NONE;
            case 4: return x.params.size() > 1 ? x.params.get(1).name() : NONE;
            case 5: return x.returns;
            case 6: return (int) x.body.size();
            case 7: return now.family(method).size();
            default: throw new IllegalArgumentException();
        }
    }

    public int node(int method, int place, int what) {
        Meth x = meth(method);
        Node n = place(x, place);
        if (what < 0 || what > 3) throw new IllegalArgumentException();
        if (what == 0) return n.kind.ordinal();
        if (what == 1) return n.value;
        if (now.wrong() != NONE) return 0;
        if (what == 2) return n.type;
        if (n.bound == null) return 0;
        if (n.bound.let() != null) return x.body.all().indexOf(n.bound.let());
        if (n.bound.parameter() >= 0) return -1 - n.bound.parameter();
        return n.bound.isField() ? 1000 + n.bound.fieldClass() : 2000 + n.bound.method();
    }

    /** An object, or a number; the object that is null is nothing. */
    static final class Thing {
        final int of;
        final Map<Integer, Object> fields = new HashMap<>();
        Thing(Prog p, int of) {
            this.of = of;
            for (int c = of; c != NONE; c = p.parents.get(c)) {
                for (Map.Entry<Integer, Integer> e : p.fields.get(c).entrySet()) fields.put(e.getKey(), e.getValue() == INT ? (Object) 0 : null);
            }
        }
    }

    static final class Raised extends RuntimeException {
        private static final long serialVersionUID = 1;
        final boolean isNothing;
        final int number;
        Raised(boolean isNothing, int number) { super(null, null, false, false); this.isNothing = isNothing; this.number = number; }
    }

    static final class Endless extends RuntimeException {
        private static final long serialVersionUID = 1;
        Endless() { super(null, null, false, false); }
    }

    boolean has(int m) { return now.methods.containsKey(m); }
    java.util.Set<Integer> fieldsOf(int of) { return now.fields.get(of).keySet(); }

    private int steps;

    private Object perform(Prog p, Meth m, Thing self, List<Object> arguments, int depth) {
        if (depth > 20) throw new Endless();
        Map<Object, Object> locals = new HashMap<>();
        for (int i = 0; i < m.params.size(); i++) locals.put(i, arguments.get(i));
        return find(p, m.body, self, locals, depth);
    }

    private Object find(Prog p, Node n, Thing self, Map<Object, Object> locals, int depth) {
        if (steps == 500) throw new Endless();
        steps++;
        switch (n.kind) {
            case NUMBER: return n.value;
            case THIS: return self;
            case MAKE: return new Thing(p, n.value);
            case VAR: return n.bound.isField() ? self.fields.get(n.value) : locals.get(key(n.bound));
            case SET: {
                Object v = find(p, n.parts.get(0), self, locals, depth);
                if (n.bound.isField()) self.fields.put(n.value, v);
                else locals.put(key(n.bound), v);
                return v;
            }
            case LET: {
                locals.put(n, find(p, n.parts.get(0), self, locals, depth));
                return find(p, n.parts.get(1), self, locals, depth);
            }
            case SEQ: {
                find(p, n.parts.get(0), self, locals, depth);
                return find(p, n.parts.get(1), self, locals, depth);
            }
            case TEST: {
                int c = (Integer) find(p, n.parts.get(0), self, locals, depth);
                return find(p, n.parts.get(c != 0 ? 1 : 2), self, locals, depth);
            }
            case GUARD: {
                try {
                    return find(p, n.parts.get(0), self, locals, depth);
                } catch (Raised e) {
                    return find(p, n.parts.get(1), self, locals, depth);
                }
            }
            default: break;
        }
        List<Object> found = new ArrayList<>();
        for (Node q : n.parts) found.add(find(p, q, self, locals, depth));
        switch (n.kind) {
            case RAISE: throw new Raised(false, (Integer) found.get(0));
            case TWO: {
                int a = (Integer) found.get(0), b = (Integer) found.get(1);
                return n.value == 0 ? a + b : n.value == 1 ? a - b : n.value == 2 ? a * b : (a < b ? 1 : 0);
            }
            default: break;
        }
        Thing r = (Thing) found.get(0);
        if (r == null) throw new Raised(true, 0);
        switch (n.kind) {
            case FIELD: return r.fields.get(n.value);
            case PUT: r.fields.put(n.value, found.get(1)); return found.get(1);
            default: return perform(p, p.methods.get(p.lookUp(r.of, n.value, n.parts.size() - 1)), r, found.subList(1, found.size()), depth + 1);
        }
    }

    private static Object key(Bound b) { return b.let() != null ? b.let() : (Object) b.parameter(); }

    public int run(int method, int of, int first, int second, boolean isBegun) {
        if (isBegun && begun == null) throw new IllegalStateException();
        Prog p = isBegun ? begun : now;
        Meth m = p.methods.get(method);
        if (m == null) throw new IndexOutOfBoundsException();
        aClass(p, of);
        if (!p.below(of, m.of)) throw new IllegalArgumentException();
        for (Param q : m.params) if (q.type() != INT) throw new IllegalArgumentException();
        right(p);
        steps = 0;
        int value = 0;
        int how;
        try {
            Object o = perform(p, m, new Thing(p, of), List.of(first, second), 1);
            if (m.returns == INT) { how = 0; value = (Integer) o; }
            else if (o == null) how = 2;
            else { how = 1; value = ((Thing) o).of; }
        } catch (Raised e) {
            how = e.isNothing ? 4 : 3;
            value = e.number;
        } catch (Endless e) {
            how = 5;
        }
        lastValue = value;
        lastSteps = steps;
        return how;
    }

    public int value() { return lastValue; }
    public int steps() { return lastSteps; }
}
