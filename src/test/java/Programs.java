import java.util.ArrayList;
import java.util.HashMap;
import java.util.List;
import java.util.Map;
import java.util.Random;

/** Makes programs that are mostly right, out of a seed, and tells them call by call. */
final class Programs {
    interface Teller { int tell(String call, int... arguments); }

    record Tree(String kind, int value, int type, List<Tree> parts) {
        static Tree of(String kind, int value, int type, Tree... parts) { return new Tree(kind, value, type, List.of(parts)); }
        int size() { int s = 1; for (Tree p : parts) s += p.size(); return s; }
    }
    record Local(int name, int type) { }
    record Sig(int of, int name, List<Local> params, int returns) { }

    static final int INT = -1, NEVER = -2, ANY = -3;
    final Random random;
    final Teller teller;
    final List<Integer> parents = new ArrayList<>();
    final List<Map<Integer, Integer>> fields = new ArrayList<>();
    final List<Sig> sigs = new ArrayList<>();
    private final Map<String, Integer> shared = new HashMap<>();
    private final boolean isSharing;
    final int names;
    private int told;
    private int left;
    private int of;

    Programs(Random random, Teller teller) {
        this.random = random;
        this.teller = teller;
        isSharing = random.nextInt(8) != 0;
        names = new int[] {2, 3, 4, 6, 9, 16}[random.nextInt(6)];
    }

    void tellAll(boolean isWild) {
        int classes = 1 + random.nextInt(random.nextInt(3) == 0 ? 6 : 4);
        for (int c = 0; c < classes; c++) {
            int parent = c == 0 || random.nextInt(5) == 0 ? -1 : random.nextInt(c);
            parents.add(parent);
            fields.add(new HashMap<>());
            teller.tell("classOf", parent);
        }
        for (int i = random.nextInt(7); i > 0; i--) {
            int c = random.nextInt(classes), name = random.nextInt(names), type = someType();
            boolean isFree = true;
            for (int d = 0; d < classes; d++) if ((below(c, d) || below(d, c)) && fields.get(d).containsKey(name)) isFree = false;
            if (isFree || random.nextInt(4) == 0) teller.tell("fieldOf", c, name, type);
            if (isFree) fields.get(c).put(name, type);
        }
        int methods = random.nextInt(4) == 0 ? 16 + random.nextInt(8) : 2 + random.nextInt(10);
        for (int i = 0; i < methods; i++) addSig();
        for (Sig s : sigs) tellMethod(s, isWild);
    }

    private int someType() { return random.nextInt(5) < 3 ? INT : random.nextInt(parents.size()); }

    boolean below(int a, int b) { for (int c = a; c >= 0; c = parents.get(c)) if (c == b) return true; return false; }
    private boolean fits(int a, int b) { return b == ANY || a == NEVER || a == b || (a >= 0 && b >= 0 && below(a, b)); }

    private void addSig() {
        int c = random.nextInt(parents.size());
        int name = random.nextInt(names);
        int arity = random.nextInt(3);
        List<Local> params = new ArrayList<>();
        for (int k = 0; k < arity; k++) {
            int p = random.nextInt(names);
            while (k == 1 && p == params.get(0).name()) p = random.nextInt(names);
            params.add(new Local(p, random.nextInt(4) == 0 ? someType() : INT));
        }
        int returns = someType();
        for (Sig s : sigs) {
            if (s.name() != name || s.params().size() != arity) continue;
            if (s.of() == c) return;
            if (!below(s.of(), c) && !below(c, s.of())) continue;
            returns = s.returns();
            for (int k = 0; k < arity; k++) params.set(k, new Local(params.get(k).name(), s.params().get(k).type()));
        }
        sigs.add(new Sig(c, name, params, returns));
    }

    private void tellMethod(Sig s, boolean isWild) {
        of = s.of();
        left = random.nextInt(6) == 0 ? 56 : 4 + random.nextInt(24);
        Tree body = make(isWild && random.nextInt(6) == 0 ? ANY : s.returns(), new ArrayList<>(s.params()), 0);
        int node = told + body.size() <= 150 || isSharing ? tell(body) : -1;
        if (node < 0) node = tell(s.returns() == INT ? Tree.of("number", 0, INT) : Tree.of("make", s.returns(), s.returns()));
        int first = s.params().size() > 0 ? coded(s.params().get(0)) : -1;
        int second = s.params().size() > 1 ? coded(s.params().get(1)) : -1;
        teller.tell("method", s.of(), s.name(), first, second, s.returns(), Math.max(node, 0));
    }

    private static int coded(Local p) { return 100 * (p.type() + 1) + p.name(); }

    private int tell(Tree t) {
        int[] parts = new int[3];
        for (int i = 0; i < 3; i++) {
            parts[i] = i < t.parts().size() ? tell(t.parts().get(i)) : -1;
            if (i < t.parts().size() && parts[i] < 0) return -1;
        }
        String key = t.kind() + " " + t.value() + " " + parts[0] + " " + parts[1] + " " + parts[2];
        if (isSharing && shared.containsKey(key)) return shared.get(key);
        if (told > 146 && t.parts().size() > 0) return -1;
        int node = one(t, parts);
        if (node >= 0) told++;
        if (node >= 0) shared.put(key, node);
        return node;
    }

    private int one(Tree t, int[] p) {
        switch (t.kind()) {
            case "number": return teller.tell("number", t.value());
            case "var": return teller.tell("var", t.value());
            case "self": return teller.tell("self");
            case "field": return teller.tell("field", p[0], t.value());
            case "put": return teller.tell("put", p[0], t.value(), p[1]);
            case "let": return teller.tell("let", t.value(), p[0], p[1]);
            case "set": return teller.tell("let", t.value(), p[0], -1);
            case "call": return teller.tell("call", p[0], t.value(), p[1], p[2]);
            case "make": return teller.tell("make", t.value());
            case "two": return teller.tell("two", t.value(), p[0], p[1]);
            case "test": return teller.tell("test", p[0], p[1], p[2]);
            default: return teller.tell("raise", p[0]);
        }
    }

    /** A tree whose type fits the one that is wanted; locals are told innermost last. */
    private Tree make(int wanted, List<Local> locals, int depth) {
        left--;
        for (int i = 0; i < 30 && left > 0 && depth < 12; i++) {
            Tree t = attempt(random.nextInt(26), wanted, locals, depth);
            if (t != null) return t;
        }
        return leaf(wanted, locals);
    }

    private Tree leaf(int wanted, List<Local> locals) {
        if (random.nextInt(2) == 0) {
            Tree v = variable(wanted, locals);
            if (v != null) return v;
        }
        if (wanted == NEVER) return Tree.of("raise", 0, NEVER, Tree.of("number", random.nextInt(4), INT));
        if (wanted == INT || wanted == ANY) return Tree.of("number", random.nextInt(4) - 1, INT);
        if (below(of, wanted) && random.nextInt(3) != 0) return Tree.of("self", 0, of);
        int made = belowOf(wanted);
        return Tree.of("make", made, made);
    }

    private int belowOf(int wanted) {
        for (int i = 0; i < 4; i++) { int c = random.nextInt(parents.size()); if (below(c, wanted)) return c; }
        return wanted;
    }

    private int typeOfName(int name, List<Local> locals) {
        for (int i = locals.size() - 1; i >= 0; i--) if (locals.get(i).name() == name) return locals.get(i).type();
        return fieldType(of, name);
    }

    private int fieldType(int c, int name) {
        for (; c >= 0; c = parents.get(c)) if (fields.get(c).containsKey(name)) return fields.get(c).get(name);
        return ANY;
    }

    private Tree variable(int wanted, List<Local> locals) {
        for (int i = 0; i < 6; i++) {
            int name = random.nextInt(names);
            int type = typeOfName(name, locals);
            if (type != ANY && fits(type, wanted)) return Tree.of("var", name, type);
        }
        return null;
    }

    private Tree attempt(int choice, int wanted, List<Local> locals, int depth) {
        switch (choice) {
            case 0: case 1: case 2: return variable(wanted, locals);
            case 3: case 4: return fits(INT, wanted) ? Tree.of("number", random.nextInt(5) - 2, INT) : null;
            case 5: return fits(of, wanted) ? Tree.of("self", 0, of) : null;
            case 6: { int c = random.nextInt(parents.size()); return fits(c, wanted) ? Tree.of("make", c, c) : null; }
            case 7: case 8: case 9: {
                if (!fits(INT, wanted)) return null;
                return Tree.of("two", 2 + random.nextInt(4), INT, make(INT, locals, depth + 1), make(INT, locals, depth + 1));
            }
            case 10: case 11: return let(wanted, locals, depth);
            case 12: case 13: {
                int name = random.nextInt(names), type = typeOfName(name, locals);
                if (type == ANY || !fits(type, wanted)) return null;
                return Tree.of("set", name, type, make(type, locals, depth + 1));
            }
            case 14: case 15: return access(wanted, locals, depth);
            case 16: case 17: case 18: case 19: return call(wanted, locals, depth);
            case 20: {
                Tree a = make(ANY, locals, depth + 1), b = make(wanted, locals, depth + 1);
                return Tree.of("two", 0, b.type(), a, b);
            }
            case 21: case 22: {
                Tree a = make(wanted, locals, depth + 1);
                Tree b = make(a.type() == NEVER ? wanted : a.type(), locals, depth + 1);
                return Tree.of("two", 1, a.type() == NEVER ? b.type() : a.type(), a, b);
            }
            case 23: case 24: {
                Tree c = make(INT, locals, depth + 1), a = make(wanted, locals, depth + 1);
                Tree b = make(a.type() == NEVER ? wanted : a.type(), locals, depth + 1);
                return Tree.of("test", 0, a.type() == NEVER ? b.type() : a.type(), c, a, b);
            }
            default: return random.nextInt(2) == 0 ? Tree.of("raise", 0, NEVER, make(INT, locals, depth + 1)) : null;
        }
    }

    private Tree let(int wanted, List<Local> locals, int depth) {
        int name = random.nextInt(names);
        Tree v = make(random.nextInt(10) == 0 ? ANY : someType(), locals, depth + 1);
        List<Local> inner = new ArrayList<>(locals);
        inner.add(new Local(name, v.type()));
        Tree b = make(wanted, inner, depth + 1);
        return Tree.of("let", name, b.type(), v, b);
    }

    private Tree access(int wanted, List<Local> locals, int depth) {
        int c = random.nextInt(parents.size());
        int name = random.nextInt(names), type = fieldType(c, name);
        if (type == ANY || !fits(type, wanted)) return null;
        Tree r = make(c, locals, depth + 1);
        if (r.type() < 0) return null;
        if (random.nextInt(2) == 0) return Tree.of("field", name, type, r);
        return Tree.of("put", name, type, r, make(type, locals, depth + 1));
    }

    private Tree call(int wanted, List<Local> locals, int depth) {
        Sig s = sigs.get(random.nextInt(sigs.size()));
        if (!fits(s.returns(), wanted)) return null;
        Tree r = random.nextInt(2) == 0 && below(of, s.of()) ? Tree.of("self", 0, of) : make(s.of(), locals, depth + 1);
        if (r.type() < 0) return null;
        List<Tree> parts = new ArrayList<>();
        parts.add(r);
        for (Local p : s.params()) parts.add(make(p.type(), locals, depth + 1));
        return new Tree("call", s.name(), s.returns(), parts);
    }
}
