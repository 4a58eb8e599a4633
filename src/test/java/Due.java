/** Counts and prints what is not as it is due. */
final class Due {
    interface Call { int go(); }
    interface Act { void go(); }

    private static final int MOST_TOLD = 40;

    private final String of;
    private String part = "";
    private int wrong;

    Due(String of) { this.of = of; }

    void is(String what, long got, long want) {
        if (got != want) tell(what + " answered " + got + ", due is " + want);
    }

    void same(String what, String got, String want) {
        if (got.equals(want)) return;
        String[] gots = got.split("\n"), wants = want.split("\n");
        int i = 0;
        while (i < gots.length - 1 && i < wants.length - 1 && gots[i].equals(wants[i])) i++;
        tell(what + " answered " + gots[i] + ", due is " + wants[i]);
    }

    /** The body of a method, as text. */
    void body(SmithyBench x, int method, String want) {
        StringBuilder text = new StringBuilder();
        show(x, method, 0, text);
        if (!text.toString().equals(want)) tell("the body of method " + method + " is " + text + ", due is " + want);
    }

    private static final String[] KINDS = {"", "", "this", "field", "put", "let", "set", "call", "make", "seq", "test", "two", "raise", "guard"};
    private static final String[] SIGNS = {"+", "-", "*", "<"};

    /** Writes the node at a place, and says at which place the next one begins. */
    private static int show(SmithyBench x, int method, int place, StringBuilder text) {
        int kind = x.node(method, place, 0), value = x.node(method, place, 1);
        if (kind == 0) text.append(value);
        else if (kind == 1) text.append((char) ('a' + value));
        else if (kind == 2) text.append("this");
        else if (kind == 8) text.append("new").append(value);
        else return showParts(x, method, place, text);
        return place + 1;
    }

    private static int showParts(SmithyBench x, int method, int place, StringBuilder text) {
        int kind = x.node(method, place, 0), value = x.node(method, place, 1);
        boolean hasName = kind >= 3 && kind <= 7;
        text.append('(').append(kind == 11 ? SIGNS[value] : KINDS[kind]);
        if (hasName) text.append(' ').append((char) ('a' + value));
        int parts = kind == 6 || kind == 3 || kind == 12 ? 1 : kind == 10 ? 3 : 2;
        if (kind == 7) parts = 1 + x.tell(x.node(method, place, 3) - 2000, 2);
        int next = place + 1;
        for (int i = 0; i < parts; i++) {
            text.append(' ');
            next = show(x, method, next, text);
        }
        text.append(')');
        return next;
    }

    void outOfBounds(String what, Call call) { raises(what, call, IndexOutOfBoundsException.class); }
    void badArgument(String what, Call call) { raises(what, call, IllegalArgumentException.class); }
    void badState(String what, Call call) { raises(what, call, IllegalStateException.class); }

    private void raises(String what, Call call, Class<?> due) {
        try {
            tell(what + " answered " + call.go() + ", due is " + due.getSimpleName());
        } catch (RuntimeException e) {
            if (e.getClass() != due) tell(what + " threw " + e.getClass().getSimpleName() + ", due is " + due.getSimpleName());
        }
    }

    /** Does a part, and goes on with the others if it throws. */
    void part(String itsPart, Act act) {
        part = itsPart;
        try {
            act.go();
        } catch (RuntimeException e) {
            tell("threw " + e);
        }
    }

    private void tell(String text) {
        wrong++;
        if (wrong <= MOST_TOLD) System.out.println(of + ", " + part + ": " + text);
    }

    void end() {
        System.out.println(wrong == 0 ? of + ": all is as due" : of + ": " + wrong + " answers are not as due");
        if (wrong != 0) System.exit(1);
    }
}
