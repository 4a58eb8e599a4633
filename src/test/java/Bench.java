/** Tells programs that are written as text: (call a this b 1), (let a 3 (+ a 1)), names being letters. */
final class Bench {
    final SmithyBench x = new SmithyBench();
    private String text = "";
    private int at;

    /** Classes by their parents. */
    Bench(int... parents) { for (int p : parents) x.classOf(p); }

    /** A method; parameters are told as a letter and a type, as in "a- b1", "-" being INT. */
    int method(int of, String name, String parameters, int returns, String body) {
        int[] told = {-1, -1};
        String[] each = parameters.isEmpty() ? new String[0] : parameters.split(" ");
        for (int i = 0; i < each.length; i++) told[i] = (each[i].charAt(0) - 'a') + (each[i].charAt(1) == '-' ? 0 : 100 * (each[i].charAt(1) - '0' + 1));
        return x.method(of, name.charAt(0) - 'a', told[0], told[1], returns, tell(body));
    }

    /** The number of the node that a text tells. */
    int tell(String body) {
        text = body;
        at = 0;
        return node();
    }

    private void skip() { while (at < text.length() && text.charAt(at) == ' ') at++; }

    private String word() {
        skip();
        int from = at;
        while (at < text.length() && " ()".indexOf(text.charAt(at)) < 0) at++;
        return text.substring(from, at);
    }

    private boolean hasMore() { skip(); return text.charAt(at) != ')'; }

    private int letter() { return word().charAt(0) - 'a'; }

    private int node() {
        skip();
        if (text.charAt(at) != '(') return leaf(word());
        at++;
        int made = inner(word());
        skip();
        if (text.charAt(at) != ')') throw new IllegalStateException("not a node: " + text);
        at++;
        return made;
    }

    private int leaf(String word) {
        if (word.equals("this")) return x.self();
        if (word.startsWith("new")) return x.make(Integer.parseInt(word.substring(3)));
        return word.length() == 1 && word.charAt(0) >= 'a' ? x.var(word.charAt(0) - 'a') : x.number(Integer.parseInt(word));
    }

    private int inner(String word) {
        switch (word) {
            case "field": { int name = letter(); return x.field(node(), name); }
            case "put": { int name = letter(); int r = node(); return x.put(r, name, node()); }
            case "let": { int name = letter(); int v = node(); return x.let(name, v, node()); }
            case "set": { int name = letter(); return x.let(name, node(), -1); }
            case "call": {
                int name = letter();
                int r = node();
                int a = hasMore() ? node() : -1;
                int b = hasMore() ? node() : -1;
                return x.call(r, name, a, b);
            }
            case "test": { int c = node(); int a = node(); return x.test(c, a, node()); }
            case "raise": return x.raise(node());
            default: {
                int kind = java.util.List.of("seq", "guard", "+", "-", "*", "<").indexOf(word);
                int a = node();
                return x.two(kind, a, node());
            }
        }
    }
}
