/** Promises 1 to 17: a new object, nodes, and the program. */
public final class TellingTest {
    private static final Due due = new Due("telling");
    private static final int NONE = SmithyBench.NONE, INT = SmithyBench.INT;

    public static void main(String[] arguments) {
        due.part("promise 1", TellingTest::aNewObject);
        due.part("promises 2 to 12", TellingTest::nodesAreNumbered);
        due.part("promises 2 to 12, kinds", TellingTest::nodesAreAsTold);
        due.part("promises 2 to 12, arguments", TellingTest::nodesAreRefused);
        due.part("promises 2 to 12, 150", TellingTest::nodesAreAtMost150);
        due.part("promise 13", TellingTest::classes);
        due.part("promise 14", TellingTest::fields);
        due.part("promise 15", TellingTest::methods);
        due.part("promise 15, refused", TellingTest::methodsAreRefused);
        due.part("promise 15, limits", TellingTest::methodsHaveLimits);
        due.part("promise 16, bodies", TellingTest::wrongBodies);
        due.part("promise 16, types", TellingTest::typesOfNodes);
        due.part("promise 16, overriding", TellingTest::wrongOverriding);
        due.part("promise 16, told later", TellingTest::laterTelling);
        due.part("promise 17", TellingTest::begin);
        due.end();
    }

    private static void aNewObject() {
        SmithyBench x = new SmithyBench();
        due.is("wrong", x.wrong(), NONE);
        due.is("value", x.value(), 0);
        due.is("steps", x.steps(), 0);
        due.outOfBounds("tell", () -> x.tell(0, 0));
        due.outOfBounds("node", () -> x.node(0, 0, 0));
        due.outOfBounds("make", () -> x.make(0));
        due.outOfBounds("raise", () -> x.raise(0));
        due.outOfBounds("run", () -> x.run(0, 0, 0, 0, false));
        due.badState("undo", x::undo);
        due.badState("run of the beginning", () -> x.run(0, 0, 0, 0, true));
        due.is("begin", x.begin(), 0);
        due.outOfBounds("run of the beginning, begun", () -> x.run(0, 0, 0, 0, true));
        due.is("number", x.number(7), 0);
        due.is("class", x.classOf(NONE), 0);
    }

    private static void nodesAreNumbered() {
        SmithyBench x = new SmithyBench();
        x.classOf(NONE);
        due.is("number", x.number(Integer.MIN_VALUE), 0);
        due.is("var", x.var(0), 1);
        due.is("self", x.self(), 2);
        due.is("field", x.field(2, 15), 3);
        due.is("put", x.put(2, 0, 0), 4);
        due.is("let", x.let(3, 0, 1), 5);
        due.is("set", x.let(3, 0, NONE), 6);
        due.is("call", x.call(2, 1, NONE, NONE), 7);
        due.is("call with one", x.call(2, 1, 0, NONE), 8);
        due.is("call with two", x.call(2, 1, 0, 1), 9);
        due.is("make", x.make(0), 10);
        due.is("two", x.two(2, 0, 0), 11);
        due.is("test", x.test(0, 0, 0), 12);
        due.is("raise", x.raise(0), 13);
    }

    private static int kindOf(SmithyBench x, int node, int name) {
        return x.node(x.method(0, name, NONE, NONE, INT, node), 0, 0);
    }

    private static void nodesAreAsTold() {
        SmithyBench x = new SmithyBench();
        x.classOf(NONE);
        x.classOf(0);
        int n = x.number(-5), v = x.var(9), t = x.self();
        int[] nodes = {
            n, v, t, x.field(t, 3), x.put(t, 4, n), x.let(5, n, v), x.let(6, n, NONE), x.call(t, 7, n, v), x.make(1), x.two(0, n, v),
            x.test(n, v, t), x.two(5, v, n), x.raise(n), x.two(1, n, t)};
        int[] values = {-5, 9, 0, 3, 4, 5, 6, 7, 1, 0, 0, 3, 0, 0};
        int[] sizes = {1, 1, 1, 2, 3, 3, 2, 4, 1, 3, 4, 3, 2, 3};
        for (int i = 0; i < nodes.length; i++) {
            due.is("kind", kindOf(x, nodes[i], i), i);
            due.is("value", x.node(i, 0, 1), values[i]);
            due.is("size", x.tell(i, 6), sizes[i]);
        }
        // r, then the first argument, then the second one; c, a, b; a sign for each kind of TWO.
        due.is("r", x.node(7, 1, 0), 2);
        due.is("first", x.node(7, 2, 0), 0);
        due.is("second", x.node(7, 3, 0), 1);
        due.is("so", x.node(10, 2, 0), 1);
        due.is("not", x.node(10, 3, 0), 2);
        due.is("v of a PUT", x.node(4, 2, 0), 0);
        due.is("b of a LET", x.node(5, 2, 0), 1);
        for (int sign = 0; sign < 4; sign++) {
            int m = x.method(1, sign, NONE, NONE, INT, x.two(sign + 2, n, n));
            due.is("kind of TWO", x.node(m, 0, 0), 11);
            due.is("sign", x.node(m, 0, 1), sign);
        }
    }

    private static void nodesAreRefused() {
        SmithyBench x = new SmithyBench();
        x.classOf(NONE);
        x.number(1);
        for (int name : new int[] {-1, 16, Integer.MIN_VALUE, Integer.MAX_VALUE}) {
            due.badArgument("var", () -> x.var(name));
            due.badArgument("field", () -> x.field(0, name));
            due.badArgument("put", () -> x.put(0, name, 0));
            due.badArgument("let", () -> x.let(name, 0, 0));
            due.badArgument("set", () -> x.let(name, 0, NONE));
            due.badArgument("call", () -> x.call(0, name, NONE, NONE));
        }
        for (int node : new int[] {-1, 1, -2, Integer.MIN_VALUE, Integer.MAX_VALUE}) {
            due.outOfBounds("field", () -> x.field(node, -1));
            due.outOfBounds("put r", () -> x.put(node, -1, 0));
            due.outOfBounds("put v", () -> x.put(0, -1, node));
            due.outOfBounds("let v", () -> x.let(-1, node, NONE));
            if (node != NONE) due.outOfBounds("let b", () -> x.let(-1, 0, node));
            due.outOfBounds("call r", () -> x.call(node, -1, NONE, NONE));
            if (node != NONE) due.outOfBounds("call first", () -> x.call(0, -1, node, NONE));
            if (node != NONE) due.outOfBounds("call second", () -> x.call(0, -1, NONE, node));
            due.outOfBounds("two first", () -> x.two(-1, node, 0));
            due.outOfBounds("two second", () -> x.two(-1, 0, node));
            due.outOfBounds("test c", () -> x.test(node, 0, 0));
            due.outOfBounds("test a", () -> x.test(0, node, 0));
            due.outOfBounds("test b", () -> x.test(0, 0, node));
            due.outOfBounds("raise", () -> x.raise(node));
            due.outOfBounds("make", () -> x.make(node));
        }
        due.badArgument("second without first", () -> x.call(0, 0, NONE, 0));
        due.badArgument("kind -1", () -> x.two(-1, 0, 0));
        due.badArgument("kind 6", () -> x.two(6, 0, 0));
        due.is("nothing was told by these", x.self(), 1);
    }

    private static void nodesAreAtMost150() {
        SmithyBench x = new SmithyBench();
        x.classOf(NONE);
        for (int i = 0; i < 150; i++) due.is("number", x.number(i), i);
        due.badState("number", () -> x.number(0));
        due.badState("var", () -> x.var(0));
        due.badState("self", x::self);
        due.badState("field", () -> x.field(0, 0));
        due.badState("put", () -> x.put(0, 0, 0));
        due.badState("let", () -> x.let(0, 0, 0));
        due.badState("call", () -> x.call(0, 0, NONE, NONE));
        due.badState("make", () -> x.make(0));
        due.badState("two", () -> x.two(0, 0, 0));
        due.badState("test", () -> x.test(0, 0, 0));
        due.badState("raise", () -> x.raise(0));
        due.badArgument("var of no name", () -> x.var(16));
        due.badArgument("field of no name", () -> x.field(0, 16));
        due.badArgument("put of no name", () -> x.put(0, 16, 0));
        due.badArgument("let of no name", () -> x.let(16, 0, 0));
        due.badArgument("call of no name", () -> x.call(0, 16, NONE, NONE));
        due.badArgument("two of no kind", () -> x.two(6, 0, 0));
        due.outOfBounds("field of none", () -> x.field(150, 0));
        due.outOfBounds("make of none", () -> x.make(1));
        due.outOfBounds("raise of none", () -> x.raise(150));
        due.outOfBounds("test of none", () -> x.test(0, 0, 150));
    }

    private static void classes() {
        SmithyBench x = new SmithyBench();
        due.outOfBounds("itself as parent", () -> x.classOf(0));
        due.outOfBounds("below NONE", () -> x.classOf(-2));
        due.is("the first", x.classOf(NONE), 0);
        due.outOfBounds("one too high", () -> x.classOf(1));
        for (int c = 1; c < 6; c++) due.is("the next", x.classOf(c - 1), c);
        due.badState("a seventh", () -> x.classOf(NONE));
        due.badState("a seventh, below", () -> x.classOf(5));
        due.outOfBounds("a seventh of none", () -> x.classOf(6));
    }

    private static void fields() {
        SmithyBench x = new SmithyBench();
        for (int c = 0; c < 4; c++) x.classOf(c - 1);
        x.classOf(0);
        due.is("an INT", x.fieldOf(1, 0, INT), 1);
        due.is("a class", x.fieldOf(1, 15, 4), 2);
        due.is("its own class", x.fieldOf(1, 3, 1), 3);
        due.is("those above are not counted", x.fieldOf(2, 4, INT), 1);
        due.is("a class that is not akin", x.fieldOf(4, 0, 0), 1);
        due.badState("the same", () -> x.fieldOf(1, 0, INT));
        due.badState("above", () -> x.fieldOf(0, 0, INT));
        due.badState("below", () -> x.fieldOf(2, 0, INT));
        due.badState("two below", () -> x.fieldOf(3, 15, INT));
        due.badState("above two", () -> x.fieldOf(0, 4, 2));
        due.outOfBounds("no class", () -> x.fieldOf(5, 16, INT));
        due.outOfBounds("class -1", () -> x.fieldOf(-1, 16, INT));
        due.outOfBounds("no type", () -> x.fieldOf(0, 16, 5));
        due.outOfBounds("NEVER", () -> x.fieldOf(0, 16, SmithyBench.NEVER));
        due.badArgument("name 16", () -> x.fieldOf(1, 16, INT));
        due.badArgument("name -1", () -> x.fieldOf(1, -1, INT));
    }

    private static void methods() {
        SmithyBench x = new SmithyBench();
        x.classOf(NONE);
        x.classOf(0);
        int n = x.number(3);
        due.is("without parameters", x.method(1, 15, NONE, NONE, INT, n), 0);
        due.is("with one", x.method(1, 15, 7, NONE, 0, n), 1);
        due.is("with two", x.method(1, 15, 215, 100, 1, n), 2);
        due.is("as many in another class", x.method(0, 15, 3, 2, INT, n), 3);
        int[][] told = {{1, 15, 0, NONE, NONE, INT, 1, 1}, {1, 15, 1, 7, NONE, 0, 1, 1}, {1, 15, 2, 15, 0, 1, 1, 2}, {0, 15, 2, 3, 2, INT, 1, 2}};
        for (int m = 0; m < 4; m++) for (int what = 0; what < 8; what++) due.is("tell " + m + " " + what, x.tell(m, what), told[m][what]);
        // Types are told as 1 more than the class: 215 is of class 1, and 100 of class 0.
        SmithyBench y = new SmithyBench();
        y.classOf(NONE);
        y.classOf(0);
        int v = y.var(3), w = y.var(4);
        y.method(0, 0, 203, 104, 1, v);
        due.is("the first one fits", y.wrong(), NONE);
        y.method(0, 1, 203, 104, 1, w);
        due.is("the second one is too high", y.wrong(), 1);
        y.method(0, 2, 3, 104, INT, v);
        due.is("yet the second one", y.wrong(), 1);
    }

    private static void methodsAreRefused() {
        SmithyBench x = new SmithyBench();
        x.classOf(NONE);
        int n = x.number(3);
        x.method(0, 0, NONE, NONE, INT, n);
        due.outOfBounds("no class", () -> x.method(1, 16, 16, -2, INT, n));
        due.outOfBounds("class -1", () -> x.method(-1, 16, 16, -2, INT, n));
        due.outOfBounds("no class of the first", () -> x.method(0, 16, 200, 0, INT, n));
        due.outOfBounds("no class of the first, name 99", () -> x.method(0, 0, 299, 0, INT, n));
        due.outOfBounds("no class of the second", () -> x.method(0, 16, 0, 200, INT, n));
        due.outOfBounds("no class of the second, without a first", () -> x.method(0, 16, NONE, 200, INT, n));
        due.outOfBounds("highest", () -> x.method(0, 16, Integer.MAX_VALUE, 0, INT, n));
        due.outOfBounds("no class that it returns", () -> x.method(0, 16, 16, 0, 1, n));
        due.outOfBounds("NEVER", () -> x.method(0, 16, 16, 0, SmithyBench.NEVER, n));
        due.outOfBounds("no node", () -> x.method(0, 16, 16, 0, INT, 1));
        due.outOfBounds("node -1", () -> x.method(0, 16, 16, 0, INT, NONE));
        due.badArgument("name 16", () -> x.method(0, 16, NONE, NONE, INT, n));
        due.badArgument("name -1", () -> x.method(0, -1, NONE, NONE, INT, n));
        due.badArgument("first of name 16", () -> x.method(0, 0, 16, NONE, INT, n));
        due.badArgument("first of name 16 and a class", () -> x.method(0, 0, 116, NONE, INT, n));
        due.badArgument("first of name 99", () -> x.method(0, 0, 99, NONE, INT, n));
        due.badArgument("second of name 16", () -> x.method(0, 0, 1, 16, INT, n));
        due.badArgument("first below NONE", () -> x.method(0, 0, -2, NONE, INT, n));
        due.badArgument("second below NONE", () -> x.method(0, 0, 1, -2, INT, n));
        due.badArgument("lowest", () -> x.method(0, 0, Integer.MIN_VALUE, Integer.MIN_VALUE, INT, n));
        due.badArgument("one name", () -> x.method(0, 0, 1, 1, INT, n));
        due.badArgument("one name, of two types", () -> x.method(0, 0, 1, 101, INT, n));
        due.badArgument("second without first", () -> x.method(0, 0, NONE, 1, INT, n));
        due.badState("one that is there", () -> x.method(0, 0, NONE, NONE, INT, n));
        due.badState("one that is there, another type", () -> x.method(0, 0, NONE, NONE, 0, n));
        due.is("nothing was told by these", x.method(0, 0, 0, NONE, INT, n), 1);
        due.badState("one that is there, with one", () -> x.method(0, 0, 100, NONE, INT, n));
        due.is("with two", x.method(0, 0, 0, 1, INT, n), 2);
        due.badState("one that is there, with two", () -> x.method(0, 0, 2, 103, INT, n));
    }

    private static void methodsHaveLimits() {
        SmithyBench x = new SmithyBench();
        x.classOf(NONE);
        x.classOf(NONE);
        int n = x.number(1);
        int b = n;
        for (int i = 0; i < 29; i++) b = x.two(2, b, n);
        int of59 = b;
        int of60 = x.raise(of59);
        int of61 = x.raise(of60);
        int far = of61;
        for (int i = 0; i < 60; i++) far = x.test(far, far, far);
        int farther = far;
        due.badState("61 nodes", () -> x.method(0, 0, NONE, NONE, INT, of61));
        due.badState("more nodes than can be counted", () -> x.method(0, 0, NONE, NONE, INT, farther));
        due.is("60 nodes", x.method(0, 0, NONE, NONE, INT, of60), 0);
        due.is("so many", x.tell(0, 6), 60);
        for (int m = 1; m < 24; m++) due.is("method", x.method(m / 16, m % 16, NONE, NONE, INT, n), m);
        due.badState("a 25th", () -> x.method(1, 15, NONE, NONE, INT, n));
        due.badArgument("a 25th of no name", () -> x.method(1, 16, NONE, NONE, INT, n));
        due.is("right", x.wrong(), NONE);
        due.is("begin", x.begin(), 24);
    }

    /** What is wrong, if a class with a field 1 of INT, below one with a field 0 of a class, has just this method. */
    private static int wrongOf(int returns, java.util.function.ToIntFunction<SmithyBench> body) {
        SmithyBench x = new SmithyBench();
        x.classOf(NONE);
        x.classOf(0);
        x.classOf(NONE);
        x.fieldOf(0, 0, 0);
        x.fieldOf(1, 1, INT);
        x.fieldOf(2, 2, INT);
        return withMethods(x, returns, body);
    }

    private static int withMethods(SmithyBench x, int returns, java.util.function.ToIntFunction<SmithyBench> body) {
        x.method(0, 9, 101, NONE, 0, x.var(1));
        x.method(2, 8, NONE, NONE, INT, x.number(1));
        int wrong = x.method(1, 0, 3, 104, returns, body.applyAsInt(x)) == 2 ? x.wrong() : -9;
        return wrong == 2 ? 1 : wrong == NONE ? 0 : wrong;
    }

    private static void wrongBodies() {
        due.is("a NUMBER", wrongOf(INT, x -> x.number(1)), 0);
        due.is("a NUMBER for a class", wrongOf(0, x -> x.number(1)), 1);
        due.is("a parameter", wrongOf(INT, x -> x.var(3)), 0);
        due.is("the other parameter", wrongOf(0, x -> x.var(4)), 0);
        due.is("the other parameter, too high", wrongOf(1, x -> x.var(4)), 1);
        due.is("a field", wrongOf(INT, x -> x.var(1)), 0);
        due.is("a field above", wrongOf(0, x -> x.var(0)), 0);
        due.is("a field of another class", wrongOf(INT, x -> x.var(2)), 1);
        due.is("nothing of the name", wrongOf(INT, x -> x.var(5)), 1);
        due.is("THIS", wrongOf(1, x -> x.self()), 0);
        due.is("THIS above", wrongOf(0, x -> x.self()), 0);
        due.is("THIS of another class", wrongOf(2, x -> x.self()), 1);
        due.is("THIS for a number", wrongOf(INT, x -> x.self()), 1);
        due.is("MAKE below", wrongOf(0, x -> x.make(1)), 0);
        due.is("MAKE above", wrongOf(1, x -> x.make(0)), 1);
        due.is("FIELD", wrongOf(INT, x -> x.field(x.self(), 1)), 0);
        due.is("FIELD above", wrongOf(0, x -> x.field(x.self(), 0)), 0);
        due.is("FIELD below", wrongOf(INT, x -> x.field(x.var(4), 1)), 1);
        due.is("FIELD of a parameter's name", wrongOf(INT, x -> x.field(x.self(), 3)), 1);
        due.is("FIELD of a number", wrongOf(INT, x -> x.field(x.number(0), 1)), 1);
        due.is("FIELD of NEVER", wrongOf(INT, x -> x.field(x.raise(x.number(0)), 1)), 1);
        due.is("PUT", wrongOf(INT, x -> x.put(x.self(), 1, x.number(2))), 0);
        due.is("PUT of NEVER", wrongOf(INT, x -> x.put(x.self(), 1, x.raise(x.number(2)))), 0);
        due.is("PUT of what does not fit", wrongOf(INT, x -> x.put(x.self(), 1, x.self())), 1);
        due.is("PUT of what is below", wrongOf(0, x -> x.put(x.self(), 0, x.self())), 0);
        due.is("PUT has the type of the field", wrongOf(1, x -> x.put(x.self(), 0, x.self())), 1);
        due.is("SET", wrongOf(INT, x -> x.let(3, x.number(1), NONE)), 0);
        due.is("SET of a field", wrongOf(0, x -> x.let(0, x.self(), NONE)), 0);
        due.is("SET has the type of the field", wrongOf(1, x -> x.let(0, x.self(), NONE)), 1);
        due.is("SET of what does not fit", wrongOf(INT, x -> x.let(3, x.self(), NONE)), 1);
        due.is("SET of nothing", wrongOf(INT, x -> x.let(5, x.number(1), NONE)), 1);
        due.is("SET of a LET that is NEVER", wrongOf(INT, x -> x.let(5, x.raise(x.number(1)), x.let(5, x.number(1), NONE))), 1);
        due.is("LET", wrongOf(1, x -> x.let(3, x.self(), x.var(3))), 0);
        due.is("LET is not in its v", wrongOf(INT, x -> x.let(5, x.var(5), x.number(1))), 1);
        due.is("LET is not behind its b", wrongOf(INT, x -> x.two(0, x.let(5, x.number(1), x.var(5)), x.var(5))), 1);
        due.is("LET in a LET", wrongOf(1, x -> x.let(5, x.number(1), x.let(5, x.self(), x.var(5)))), 0);
        due.is("LET ahead of a parameter", wrongOf(INT, x -> x.let(3, x.self(), x.var(3))), 1);
    }

    private static void typesOfNodes() {
        due.is("CALL", wrongOf(0, x -> x.call(x.self(), 9, x.self(), NONE)), 0);
        due.is("CALL of what does not fit", wrongOf(0, x -> x.call(x.self(), 9, x.number(1), NONE)), 1);
        due.is("CALL of NEVER", wrongOf(0, x -> x.call(x.self(), 9, x.raise(x.number(1)), NONE)), 0);
        due.is("CALL without an argument", wrongOf(0, x -> x.call(x.self(), 9, NONE, NONE)), 1);
        due.is("CALL with two", wrongOf(0, x -> x.call(x.self(), 9, x.self(), x.self())), 1);
        due.is("CALL of another class", wrongOf(INT, x -> x.call(x.self(), 8, NONE, NONE)), 1);
        due.is("CALL of another class's object", wrongOf(INT, x -> x.call(x.make(2), 8, NONE, NONE)), 0);
        due.is("CALL of a number", wrongOf(INT, x -> x.call(x.number(2), 8, NONE, NONE)), 1);
        due.is("CALL has the type that is told", wrongOf(1, x -> x.call(x.self(), 9, x.self(), NONE)), 1);
        due.is("SEQ", wrongOf(INT, x -> x.two(0, x.self(), x.number(1))), 0);
        due.is("SEQ behind NEVER", wrongOf(0, x -> x.two(0, x.raise(x.number(1)), x.number(1))), 1);
        due.is("RAISE for a class", wrongOf(0, x -> x.raise(x.number(1))), 0);
        due.is("RAISE of a class", wrongOf(0, x -> x.raise(x.self())), 1);
        due.is("RAISE of RAISE", wrongOf(0, x -> x.raise(x.raise(x.number(1)))), 0);
        due.is("TWO", wrongOf(INT, x -> x.two(5, x.number(1), x.var(3))), 0);
        due.is("TWO of a class", wrongOf(INT, x -> x.two(2, x.self(), x.number(1))), 1);
        due.is("TWO of another class", wrongOf(INT, x -> x.two(4, x.number(1), x.self())), 1);
        due.is("TWO of NEVER is INT", wrongOf(0, x -> x.two(4, x.number(1), x.raise(x.number(1)))), 1);
        due.is("TEST", wrongOf(INT, x -> x.test(x.number(1), x.number(2), x.number(3))), 0);
        due.is("TEST of NEVER", wrongOf(INT, x -> x.test(x.raise(x.number(1)), x.number(2), x.number(3))), 0);
        due.is("TEST of a class", wrongOf(INT, x -> x.test(x.self(), x.number(2), x.number(3))), 1);
        due.is("TEST of two types", wrongOf(INT, x -> x.test(x.number(1), x.number(2), x.self())), 1);
        due.is("TEST with the lower behind", wrongOf(0, x -> x.test(x.number(1), x.make(0), x.self())), 0);
        due.is("TEST has the higher", wrongOf(1, x -> x.test(x.number(1), x.self(), x.make(0))), 1);
        due.is("TEST with the higher behind", wrongOf(0, x -> x.test(x.number(1), x.self(), x.make(0))), 0);
        due.is("TEST of two that are not akin", wrongOf(0, x -> x.test(x.number(1), x.self(), x.make(2))), 1);
        due.is("TEST with NEVER", wrongOf(1, x -> x.test(x.number(1), x.raise(x.number(1)), x.self())), 0);
        due.is("TEST with NEVER behind", wrongOf(1, x -> x.test(x.number(1), x.self(), x.raise(x.number(1)))), 0);
        due.is("GUARD", wrongOf(INT, x -> x.two(1, x.number(1), x.number(3))), 0);
        due.is("GUARD of NEVER", wrongOf(INT, x -> x.two(1, x.raise(x.number(1)), x.number(3))), 0);
        due.is("GUARD with NEVER behind", wrongOf(INT, x -> x.two(1, x.number(1), x.raise(x.number(3)))), 0);
        due.is("GUARD of two types", wrongOf(INT, x -> x.two(1, x.number(1), x.self())), 1);
        due.is("GUARD has the higher", wrongOf(1, x -> x.two(1, x.make(0), x.self())), 1);
    }

    private static void wrongOverriding() {
        SmithyBench x = new SmithyBench();
        x.classOf(NONE);
        x.classOf(0);
        x.classOf(1);
        x.classOf(0);
        int n = x.number(3), s = x.self();
        x.method(0, 0, 1, NONE, INT, n);
        due.is("another name of a parameter", x.method(1, 0, 2, NONE, INT, n), 1);
        due.is("right", x.wrong(), NONE);
        x.method(1, 0, 1, 2, 1, s);
        x.method(1, 0, NONE, NONE, 1, s);
        due.is("another number of parameters", x.wrong(), NONE);
        x.method(3, 0, 101, NONE, INT, n);
        due.is("another type of a parameter", x.wrong(), 4);
        SmithyBench y = new SmithyBench();
        for (int c = 0; c < 3; c++) y.classOf(c - 1);
        int t = y.self(), m = y.make(2);
        y.method(2, 0, NONE, NONE, 2, t);
        y.method(1, 0, 101, 102, 1, m);
        due.is("none is above", y.wrong(), NONE);
        y.method(0, 0, NONE, NONE, 0, t);
        due.is("another type that is returned, two above", y.wrong(), 0);
        y.method(0, 0, 101, 202, 1, m);
        due.is("yet the lowest", y.wrong(), 0);
        SmithyBench z = new SmithyBench();
        z.classOf(NONE);
        z.classOf(0);
        int two = z.number(2);
        z.method(0, 0, 1, 2, INT, two);
        z.method(1, 0, 1, 102, INT, two);
        due.is("the second one's type", z.wrong(), 1);
    }

    private static void laterTelling() {
        SmithyBench x = new SmithyBench();
        x.classOf(NONE);
        x.method(0, 0, NONE, NONE, INT, x.var(5));
        x.classOf(0);
        due.is("a class told later does not help", x.wrong(), 0);
        x.fieldOf(1, 5, INT);
        due.is("nor does a field below", x.wrong(), 0);
        SmithyBench y = new SmithyBench();
        y.classOf(NONE);
        y.method(0, 0, NONE, NONE, INT, y.var(5));
        due.is("a name of nothing", y.wrong(), 0);
        y.fieldOf(0, 5, INT);
        due.is("a field told later", y.wrong(), NONE);
        y.method(0, 2, NONE, NONE, INT, y.call(y.self(), 1, NONE, NONE));
        due.is("a call of nothing", y.wrong(), 1);
        y.method(0, 1, NONE, NONE, INT, y.number(1));
        due.is("a method told later", y.wrong(), NONE);
    }

    private static void begin() {
        SmithyBench x = new SmithyBench();
        x.classOf(NONE);
        int n = x.number(3), s = x.self();
        x.method(0, 0, NONE, NONE, INT, n);
        x.method(0, 1, NONE, NONE, INT, s);
        due.badState("not right", x::begin);
        due.badState("none was begun with", () -> x.run(9, 9, 0, 0, true));
        SmithyBench y = new SmithyBench();
        y.classOf(NONE);
        y.method(0, 0, NONE, NONE, INT, y.number(3));
        due.is("how many", y.begin(), 1);
        y.method(0, 1, NONE, NONE, INT, y.number(4));
        due.outOfBounds("told later", () -> y.run(1, 0, 0, 0, true));
        due.is("told later, now", y.run(1, 0, 0, 0, false), 0);
        y.classOf(0);
        due.outOfBounds("a class told later", () -> y.run(0, 1, 0, 0, true));
        due.is("a class told later, now", y.run(0, 1, 0, 0, false), 0);
        due.is("change", y.removeDead(1), 1);
        due.is("those that are gone are not counted", y.begin(), 1);
        due.badState("nothing can be undone", y::undo);
        due.is("the beginning is that of now", y.run(1, 0, 0, 0, true), 0);
        due.outOfBounds("the one that is gone", () -> y.run(0, 0, 0, 0, true));
    }
}
