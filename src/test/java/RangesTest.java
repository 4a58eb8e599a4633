/** Promises 1 to 34: each range just inside, just outside and far outside, and which exception goes first. */
public final class RangesTest {
    interface Numbered { int go(SmithyBench x, int n); }
    record Row(String name, Numbered call) { }

    private static final Due due = new Due("ranges");
    private static final Refusals calls = new Refusals(due);
    private static final int NONE = SmithyBench.NONE, INT = SmithyBench.INT, NEVER = SmithyBench.NEVER;
    private static final int LEAST = Integer.MIN_VALUE, GREATEST = Integer.MAX_VALUE;

    public static void main(String[] arguments) {
        due.part("the constants", RangesTest::constants);
        due.part("promise 1, empty", RangesTest::empty);
        due.part("promise 1, two objects", RangesTest::twoObjects);
        due.part("promise 2, any number", RangesTest::anyNumber);
        due.part("promises 3 to 8, names", RangesTest::namesOfNodes);
        due.part("promises 5 to 12, nodes", RangesTest::partsOfNodes);
        due.part("promises 7 and 8, NONE", RangesTest::partsThatAreNone);
        due.part("promise 9, classes", RangesTest::classesOfMakes);
        due.part("promise 10, kinds", RangesTest::kinds);
        due.part("promises 2 to 12, full", RangesTest::fullOfNodes);
        due.part("promises 2 to 12, first and second exceptions", RangesTest::orderForNodes);
        due.part("promise 13", RangesTest::classes);
        due.part("promise 14", RangesTest::fields);
        due.part("promise 14, first and second exceptions", RangesTest::orderForFields);
        due.part("promise 15, classes and nodes", RangesTest::classesOfMethods);
        due.part("promise 15, names", RangesTest::namesOfMethods);
        due.part("promise 15, parameters", RangesTest::parametersOfMethods);
        due.part("promise 15, full", RangesTest::fullOfMethods);
        due.part("promise 15, first and second exceptions", RangesTest::orderForMethods);
        due.part("promises 16 and 17", RangesTest::wrongAndBegin);
        due.part("promises 18 to 32, methods", RangesTest::methods);
        due.part("promises 18 to 32, gone methods", RangesTest::goneMethods);
        due.part("promises 20 to 22 and 31, places", RangesTest::places);
        due.part("promises 20 and 24, parameters", RangesTest::parameters);
        due.part("promises 18 to 27, names", RangesTest::namesOfChanges);
        due.part("promises 18 to 20, its own name", RangesTest::ownNames);
        due.part("promises 19 and 27, fields", RangesTest::fieldsOfChanges);
        due.part("promises 18 to 28, not right", RangesTest::notRight);
        due.part("promises 30 and 31, what", RangesTest::whats);
        due.part("promise 32", RangesTest::runs);
        due.part("promise 32, first and second exceptions", RangesTest::orderForRuns);
        due.part("promises 33 and 34", RangesTest::lastRun);
        due.end();
    }

    private static void constants() {
        int[] got = {
            SmithyBench.NONE, SmithyBench.INT, SmithyBench.NEVER, SmithyBench.NUMBER, SmithyBench.OBJECT, SmithyBench.NOTHING, SmithyBench.RAISED,
            SmithyBench.LOST, SmithyBench.ENDLESS, SmithyBench.CLASH, SmithyBench.CAPTURE, SmithyBench.OVERRIDDEN, SmithyBench.RECURSIVE, SmithyBench.OUTPUT,
            SmithyBench.TOO_MANY, SmithyBench.EFFECT, SmithyBench.INVISIBLE, SmithyBench.USED, SmithyBench.NOT_THAT, SmithyBench.CHANGES};
        int[] want = {-1, -1, -2, 0, 1, 2, 3, 4, 5, -1, -2, -3, -4, -5, -6, -7, -8, -9, -10, -11};
        for (int i = 0; i < want.length; i++) due.is("constant " + i, got[i], want[i]);
    }

    private static Bench nothing() { return new Bench(); }

    private static void empty() {
        calls.outOfBounds("make", RangesTest::nothing, x -> x.make(0));
        calls.outOfBounds("classOf", RangesTest::nothing, x -> x.classOf(0));
        calls.outOfBounds("fieldOf", RangesTest::nothing, x -> x.fieldOf(0, 0, INT));
        calls.outOfBounds("method", RangesTest::nothing, x -> x.method(0, 0, NONE, NONE, INT, 0));
        calls.outOfBounds("renameField", RangesTest::nothing, x -> x.renameField(0, 0, 1));
        calls.outOfBounds("enclose", RangesTest::nothing, x -> x.enclose(0, 0, 1, 2));
        calls.badState("undo", RangesTest::nothing, SmithyBench::undo);
        calls.badState("run of the beginning", RangesTest::nothing, x -> x.run(-1, -1, 0, 0, true));
        for (Row r : ofNodes()) calls.outOfBounds(r.name(), RangesTest::nothing, x -> r.call().go(x, 0));
        for (Row r : ofMethods()) calls.outOfBounds(r.name(), RangesTest::nothing, x -> r.call().go(x, 0));
        SmithyBench x = new SmithyBench();
        due.is("wrong", x.wrong(), NONE);
        due.is("value", x.value(), 0);
        due.is("steps", x.steps(), 0);
        due.is("begin", x.begin(), 0);
        due.badState("begin is no change", x::undo);
        due.outOfBounds("run of the beginning, that has none", () -> x.run(0, 0, 0, 0, true));
        due.is("the first node", x.self(), 0);
        due.is("the first class", x.classOf(NONE), 0);
        due.is("the first field", x.fieldOf(0, 0, INT), 1);
        due.is("the first method", x.method(0, 0, NONE, NONE, 0, 0), 0);
        due.is("a class alone is right", x.wrong(), NONE);
    }

    private static void twoObjects() {
        Bench a = three(), b = new Bench();
        a.x.begin();
        a.x.run(0, 0, 4, 0, false);
        due.is("value", b.x.value(), 0);
        due.is("steps", b.x.steps(), 0);
        due.outOfBounds("tell", () -> b.x.tell(0, 0));
        due.badState("none was begun with", () -> b.x.run(0, 0, 0, 0, true));
        due.is("node", b.x.number(1), 0);
        due.is("class", b.x.classOf(NONE), 0);
    }

    private static void anyNumber() {
        Bench b = new Bench(NONE);
        int[] numbers = {0, 1, -1, 15, 16, 150, LEAST, GREATEST};
        for (int i = 0; i < numbers.length; i++) {
            int m = b.x.method(0, i, NONE, NONE, INT, b.x.number(numbers[i]));
            due.is("kind", b.x.node(m, 0, 0), 0);
            due.is("its number", b.x.node(m, 0, 1), numbers[i]);
            due.is("run", b.x.run(m, 0, 0, 0, false), SmithyBench.NUMBER);
            due.is("value", b.x.value(), numbers[i]);
        }
    }

    /** Classes 0, and 1 below it, and three nodes. */
    private static Bench nodes() {
        Bench b = new Bench(NONE, 0);
        for (int i = 0; i < 3; i++) b.x.number(i);
        return b;
    }

    private static Row[] named() {
        return new Row[] {
            new Row("var", (x, n) -> x.var(n)),
            new Row("field", (x, n) -> x.field(0, n)),
            new Row("put", (x, n) -> x.put(0, n, 0)),
            new Row("LET", (x, n) -> x.let(n, 0, 0)),
            new Row("SET", (x, n) -> x.let(n, 0, NONE)),
            new Row("call", (x, n) -> x.call(0, n, NONE, NONE)),
            new Row("call with one", (x, n) -> x.call(0, n, 0, NONE)),
            new Row("call with two", (x, n) -> x.call(0, n, 0, 0))};
    }

    private static void namesOfNodes() {
        for (Row r : named()) {
            SmithyBench x = nodes().x;
            due.is(r.name() + " 0", r.call().go(x, 0), 3);
            due.is(r.name() + " 15", r.call().go(x, 15), 4);
            for (int name : new int[] {-1, 16, LEAST, GREATEST}) calls.badArgument(r.name() + " " + name, RangesTest::nodes, y -> r.call().go(y, name));
            x.method(0, 0, NONE, NONE, INT, 3);
            x.method(0, 1, NONE, NONE, INT, 4);
            due.is(r.name() + ", its name", x.node(0, 0, 1), 0);
            due.is(r.name() + ", its name", x.node(1, 0, 1), 15);
        }
    }

    private static Row[] ofNodes() {
        return new Row[] {
            new Row("field r", (x, n) -> x.field(n, 0)),
            new Row("put r", (x, n) -> x.put(n, 0, 0)),
            new Row("put v", (x, n) -> x.put(0, 0, n)),
            new Row("LET v", (x, n) -> x.let(0, n, 0)),
            new Row("SET v", (x, n) -> x.let(0, n, NONE)),
            new Row("call r", (x, n) -> x.call(n, 0, NONE, NONE)),
            new Row("call r with two", (x, n) -> x.call(n, 0, 0, 0)),
            new Row("SEQ a", (x, n) -> x.two(0, n, 0)),
            new Row("SEQ b", (x, n) -> x.two(0, 0, n)),
            new Row("TWO a", (x, n) -> x.two(5, n, 0)),
            new Row("TWO b", (x, n) -> x.two(5, 0, n)),
            new Row("test c", (x, n) -> x.test(n, 0, 0)),
            new Row("test a", (x, n) -> x.test(0, n, 0)),
            new Row("test b", (x, n) -> x.test(0, 0, n)),
            new Row("raise", (x, n) -> x.raise(n))};
    }

    private static Row[] ofNodesOrNone() {
        return new Row[] {
            new Row("let b", (x, n) -> x.let(0, 0, n)),
            new Row("call first", (x, n) -> x.call(0, 0, n, NONE)),
            new Row("call second", (x, n) -> x.call(0, 0, 0, n))};
    }

    private static void partsOfNodes() {
        for (Row r : ofNodes()) {
            SmithyBench x = nodes().x;
            due.is(r.name() + " 0", r.call().go(x, 0), 3);
            due.is(r.name() + " 2", r.call().go(x, 2), 4);
            due.is(r.name() + " that was just told", r.call().go(x, 4), 5);
            // The number that the node itself would have is that of no earlier one.
            for (int n : new int[] {-1, -2, 3, 149, 150, LEAST, GREATEST}) calls.outOfBounds(r.name() + " " + n, RangesTest::nodes, y -> r.call().go(y, n));
        }
    }

    private static void partsThatAreNone() {
        for (Row r : ofNodesOrNone()) {
            SmithyBench x = nodes().x;
            due.is(r.name() + " 0", r.call().go(x, 0), 3);
            due.is(r.name() + " 2", r.call().go(x, 2), 4);
            due.is(r.name() + " NONE", r.call().go(x, NONE), 5);
            for (int n : new int[] {-2, 3, 149, 150, LEAST, GREATEST}) calls.outOfBounds(r.name() + " " + n, RangesTest::nodes, y -> r.call().go(y, n));
        }
        calls.badArgument("second is there without first", RangesTest::nodes, x -> x.call(0, 0, NONE, 0));
        calls.outOfBounds("second is no node, without first", RangesTest::nodes, x -> x.call(0, 0, NONE, 3));
        SmithyBench x = nodes().x;
        int[] told = {x.let(1, 2, NONE), x.let(1, 2, 0), x.call(0, 1, NONE, NONE), x.call(0, 1, 2, NONE), x.call(0, 1, 2, 1)};
        int[] kinds = {6, 5, 7, 7, 7}, sizes = {2, 3, 2, 3, 4};
        for (int i = 0; i < 5; i++) {
            x.method(0, i, NONE, NONE, INT, told[i]);
            due.is("kind", x.node(i, 0, 0), kinds[i]);
            due.is("size", x.tell(i, 6), sizes[i]);
        }
        due.is("v comes ahead of b", x.node(1, 1, 1), 2);
        due.is("the first argument", x.node(4, 2, 1), 2);
        due.is("the second argument", x.node(4, 3, 1), 1);
    }

    private static void classesOfMakes() {
        SmithyBench x = nodes().x;
        due.is("make 0", x.make(0), 3);
        due.is("make 1", x.make(1), 4);
        for (int of : new int[] {-1, -2, 2, 5, 6, LEAST, GREATEST}) calls.outOfBounds("make " + of, RangesTest::nodes, y -> y.make(of));
        x.classOf(NONE);
        due.is("make of what was just told", x.make(2), 5);
    }

    private static void kinds() {
        SmithyBench x = nodes().x;
        int[] told = {9, 13, 11, 11, 11, 11}, values = {0, 0, 0, 1, 2, 3};
        for (int kind = 0; kind < 6; kind++) {
            due.is("two " + kind, x.two(kind, 1, 2), 3 + kind);
            x.method(0, kind, NONE, NONE, INT, 3 + kind);
            due.is("kind", x.node(kind, 0, 0), told[kind]);
            due.is("sign", x.node(kind, 0, 1), values[kind]);
            due.is("first", x.node(kind, 1, 1), 1);
            due.is("second", x.node(kind, 2, 1), 2);
        }
        for (int kind : new int[] {-1, 6, LEAST, GREATEST}) calls.badArgument("two " + kind, RangesTest::nodes, y -> y.two(kind, 0, 0));
    }

    private static java.util.List<Row> allNodes() {
        java.util.List<Row> all = new java.util.ArrayList<>(java.util.List.of(named()));
        all.addAll(java.util.List.of(ofNodes()));
        all.addAll(java.util.List.of(ofNodesOrNone()));
        for (int kind = 0; kind < 6; kind++) {
            int k = kind;
            all.add(new Row("two " + k, (x, n) -> x.two(k, 0, 0)));
        }
        all.add(new Row("number", (x, n) -> x.number(n)));
        all.add(new Row("self", (x, n) -> x.self()));
        all.add(new Row("make", (x, n) -> x.make(n)));
        return all;
    }

    private static Bench told(int count) {
        Bench b = new Bench(NONE);
        for (int i = 0; i < count; i++) b.x.number(i);
        return b;
    }

    private static void fullOfNodes() {
        for (Row r : allNodes()) {
            SmithyBench x = told(149).x;
            due.is(r.name() + ", the 150th", r.call().go(x, 0), 149);
            calls.badState(r.name() + ", a 151st", () -> told(150), y -> r.call().go(y, 0));
        }
        SmithyBench x = told(150).x;
        due.is("a full row can be used", x.method(0, 0, NONE, NONE, INT, 149), 0);
        due.is("its last node", x.node(0, 0, 1), 149);
        // All of them of three parts.
        SmithyBench y = told(1).x;
        for (int i = 1; i < 150; i++) due.is("a TEST", y.test(0, 0, 0), i);
        due.is("the last one", y.method(0, 0, NONE, NONE, INT, 149), 0);
        due.is("its nodes", y.tell(0, 6), 4);
    }

    private static void orderForNodes() {
        for (Row r : named()) {
            calls.badArgument(r.name() + ", of no name, with 150", () -> told(150), x -> r.call().go(x, 16));
            calls.badArgument(r.name() + ", of name -1, with 150", () -> told(150), x -> r.call().go(x, -1));
        }
        for (Row r : ofNodes()) calls.outOfBounds(r.name() + ", with 150", () -> told(150), x -> r.call().go(x, 150));
        for (Row r : ofNodesOrNone()) calls.outOfBounds(r.name() + ", with 150", () -> told(150), x -> r.call().go(x, 150));
        calls.outOfBounds("make, with 150", () -> told(150), x -> x.make(1));
        calls.badArgument("no kind, with 150", () -> told(150), x -> x.two(6, 0, 0));
        calls.badArgument("second without first, with 150", () -> told(150), x -> x.call(0, 0, NONE, 0));
        calls.outOfBounds("field of no node, and no name", RangesTest::nodes, x -> x.field(3, 16));
        calls.outOfBounds("put of no r, and no name", RangesTest::nodes, x -> x.put(3, 16, 0));
        calls.outOfBounds("put of no v, and no name", RangesTest::nodes, x -> x.put(0, 16, 3));
        calls.outOfBounds("let of no v, and no name", RangesTest::nodes, x -> x.let(16, 3, NONE));
        calls.outOfBounds("let of no b, and no name", RangesTest::nodes, x -> x.let(16, 0, 3));
        calls.outOfBounds("call of no r, and no name", RangesTest::nodes, x -> x.call(3, 16, NONE, 0));
        calls.outOfBounds("call of no first, and no name", RangesTest::nodes, x -> x.call(0, 16, 3, NONE));
        calls.outOfBounds("call of no second, and no name, and no first", RangesTest::nodes, x -> x.call(0, 16, NONE, 3));
        calls.outOfBounds("two of no first, and no kind", RangesTest::nodes, x -> x.two(6, 3, 0));
        calls.outOfBounds("two of no second, and no kind", RangesTest::nodes, x -> x.two(6, 0, 3));
    }

    private static void classes() {
        SmithyBench x = new SmithyBench();
        for (int c = 0; c < 6; c++) due.is("class " + c, x.classOf(c % 2 == 0 ? NONE : c - 1), c);
        calls.badState("a seventh", () -> new Bench(-1, 0, 1, 2, 3, 4), y -> y.classOf(NONE));
        calls.badState("a seventh, below", () -> new Bench(-1, 0, 1, 2, 3, 4), y -> y.classOf(5));
        for (int parent : new int[] {-2, 6, LEAST, GREATEST}) calls.outOfBounds("a seventh of " + parent, () -> new Bench(-1, 0, 1, 2, 3, 4), y -> y.classOf(parent));
        // An earlier one: not itself, and none that comes later.
        for (int parent : new int[] {-2, 2, 3, 5, LEAST, GREATEST}) calls.outOfBounds("parent " + parent, () -> new Bench(-1, 0), y -> y.classOf(parent));
        due.is("the one just before", new Bench(-1, 0).x.classOf(1), 2);
        due.is("the first", new Bench(-1, 0).x.classOf(0), 2);
    }

    /** Class 1 below 0, 2 below 1, and 3 by itself; a field a of class 1. */
    private static Bench fielded() {
        Bench b = new Bench(NONE, 0, 1, NONE);
        b.x.fieldOf(1, 0, INT);
        return b;
    }

    private static void fields() {
        SmithyBench x = new Bench(NONE, 0).x;
        for (int name = 0; name < 16; name++) due.is("field " + name, x.fieldOf(1, name, name % 3 - 1), name + 1);
        for (int name : new int[] {-1, 16, LEAST, GREATEST}) calls.badArgument("name " + name, RangesTest::fielded, y -> y.fieldOf(3, name, INT));
        for (int of : new int[] {-1, 4, 6, LEAST, GREATEST}) calls.outOfBounds("class " + of, RangesTest::fielded, y -> y.fieldOf(of, 3, INT));
        for (int type : new int[] {NEVER, 4, 6, LEAST, GREATEST}) calls.outOfBounds("type " + type, RangesTest::fielded, y -> y.fieldOf(3, 3, type));
        for (int type = INT; type < 4; type++) due.is("type " + type, fielded().x.fieldOf(3, 3, type), 1);
        calls.badState("its own", RangesTest::fielded, y -> y.fieldOf(1, 0, INT));
        calls.badState("above", RangesTest::fielded, y -> y.fieldOf(0, 0, INT));
        calls.badState("below", RangesTest::fielded, y -> y.fieldOf(2, 0, 2));
        due.is("of a class that is not akin", fielded().x.fieldOf(3, 0, INT), 1);
        due.is("those of classes above are not counted", fielded().x.fieldOf(2, 1, INT), 1);
        due.is("nor those below", fielded().x.fieldOf(0, 1, INT), 1);
        due.is("its own are", fielded().x.fieldOf(1, 1, INT), 2);
        Bench far = new Bench(NONE, 0, 1, 2, 3, 4);
        far.x.fieldOf(0, 0, INT);
        far.x.fieldOf(5, 1, INT);
        due.badState("far above", () -> far.x.fieldOf(5, 0, INT));
        due.badState("far below", () -> far.x.fieldOf(0, 1, INT));
        Bench beside = new Bench(NONE, 0, 0);
        beside.x.fieldOf(1, 0, INT);
        due.is("beside", beside.x.fieldOf(2, 0, 0), 1);
        due.badState("above both", () -> beside.x.fieldOf(0, 0, INT));
    }

    private static void orderForFields() {
        calls.outOfBounds("no class, no name", RangesTest::fielded, x -> x.fieldOf(4, 16, INT));
        calls.outOfBounds("no type, no name", RangesTest::fielded, x -> x.fieldOf(1, 16, 4));
        calls.outOfBounds("no type, and one of that name", RangesTest::fielded, x -> x.fieldOf(1, 0, NEVER));
        calls.badArgument("no name", RangesTest::fielded, x -> x.fieldOf(1, 16, INT));
    }

    private static void classesOfMethods() {
        for (int of : new int[] {-1, -2, 2, 6, LEAST, GREATEST}) calls.outOfBounds("class " + of, RangesTest::nodes, x -> x.method(of, 0, NONE, NONE, INT, 0));
        for (int type : new int[] {NEVER, 2, 6, LEAST, GREATEST}) calls.outOfBounds("returns " + type, RangesTest::nodes, x -> x.method(0, 0, NONE, NONE, type, 0));
        for (int body : new int[] {-1, -2, 3, 149, 150, LEAST, GREATEST}) calls.outOfBounds("body " + body, RangesTest::nodes, x -> x.method(0, 0, NONE, NONE, INT, body));
        SmithyBench x = nodes().x;
        due.is("the first of each", x.method(0, 0, NONE, NONE, INT, 0), 0);
        due.is("the last of each", x.method(1, 0, NONE, NONE, 1, 2), 1);
        due.is("returns", x.tell(1, 5), 1);
        due.is("body", x.node(1, 0, 1), 2);
    }

    private static void namesOfMethods() {
        for (int name : new int[] {-1, 16, LEAST, GREATEST}) calls.badArgument("name " + name, RangesTest::nodes, x -> x.method(0, name, NONE, NONE, INT, 0));
        SmithyBench x = nodes().x;
        for (int name = 0; name < 16; name++) due.is("name", x.method(0, name, NONE, NONE, INT, 0), name);
        // A class has at most one of a name with so many parameters; others of the name are others.
        due.is("with one", x.method(0, 0, 0, NONE, INT, 0), 16);
        due.is("with two", x.method(0, 0, 0, 1, INT, 0), 17);
        due.is("in a class below", x.method(1, 0, 0, 1, INT, 0), 18);
    }

    private static Bench overloaded() {
        Bench b = nodes();
        b.x.method(0, 0, NONE, NONE, INT, 0);
        b.x.method(0, 0, 3, NONE, INT, 0);
        b.x.method(0, 0, 3, 4, INT, 0);
        return b;
    }

    private static void parametersOfMethods() {
        // 0 to 15 are of INT, 100 to 115 of class 0, 200 to 215 of class 1; there is no class 2.
        for (int told : new int[] {0, 15, 100, 115, 200, 215}) {
            SmithyBench x = nodes().x;
            due.is("first " + told, x.method(0, 0, told, NONE, INT, 0), 0);
            due.is("its name", x.tell(0, 3), told % 100);
            due.is("no second one", x.tell(0, 4), NONE);
            due.is("how many", x.tell(0, 2), 1);
            due.is("second " + told, x.method(0, 0, 7, told, INT, 0), 1);
            due.is("its name", x.tell(1, 4), told % 100);
            due.is("how many", x.tell(1, 2), 2);
            int v = x.var(told % 100);
            x.method(0, 1, told, NONE, told / 100 - 1, v);
            x.method(0, 1, 7, told, told / 100 - 1, v);
            due.is("its type", x.wrong(), NONE);
            due.is("its type, told", x.node(2, 0, 2), told / 100 - 1);
        }
        for (int told : new int[] {16, 99, 116, 199, 216, 299, -2, -100, -101, -200, LEAST}) {
            calls.badArgument("first " + told, RangesTest::nodes, x -> x.method(0, 0, told, NONE, INT, 0));
            calls.badArgument("second " + told, RangesTest::nodes, x -> x.method(0, 0, 0, told, INT, 0));
        }
        for (int told : new int[] {300, 315, 600, 700, GREATEST}) {
            calls.outOfBounds("first " + told, RangesTest::nodes, x -> x.method(0, 0, told, NONE, INT, 0));
            calls.outOfBounds("second " + told, RangesTest::nodes, x -> x.method(0, 0, 1, told, INT, 0));
        }
        SmithyBench six = new Bench(-1, 0, 1, 2, 3, 4).x;
        six.number(1);
        due.is("of the last class", six.method(0, 0, 615, 600, INT, 0), 0);
        due.outOfBounds("one more", () -> six.method(0, 1, 700, NONE, INT, 0));
        calls.badArgument("both names are the same", RangesTest::nodes, x -> x.method(0, 0, 3, 3, INT, 0));
        calls.badArgument("both names are the same, of two types", RangesTest::nodes, x -> x.method(0, 0, 103, 203, INT, 0));
        calls.badArgument("both names are 0", RangesTest::nodes, x -> x.method(0, 0, 0, 100, INT, 0));
        calls.badArgument("second is there without first", RangesTest::nodes, x -> x.method(0, 0, NONE, 0, INT, 0));
        calls.badState("as many parameters, none", RangesTest::overloaded, x -> x.method(0, 0, NONE, NONE, 0, 1));
        calls.badState("as many parameters, one", RangesTest::overloaded, x -> x.method(0, 0, 105, NONE, 0, 1));
        calls.badState("as many parameters, two", RangesTest::overloaded, x -> x.method(0, 0, 105, 106, 0, 1));
    }

    private static Bench full(int methods) {
        Bench b = nodes();
        for (int m = 0; m < methods; m++) b.x.method(m / 16, m % 16, NONE, NONE, INT, 0);
        return b;
    }

    /** A body of so many nodes. */
    private static int sized(Bench b, int size) {
        int node = b.x.number(1);
        for (int s = 1; s < size; s++) node = b.x.raise(node);
        return node;
    }

    private static void fullOfMethods() {
        due.is("the 24th", full(23).x.method(1, 15, NONE, NONE, INT, 0), 23);
        calls.badState("a 25th", () -> full(24), x -> x.method(1, 15, NONE, NONE, INT, 0));
        calls.badState("a 25th when others are gone", RangesTest::swept, x -> x.method(1, 15, NONE, NONE, INT, 0));
        Bench b = nodes();
        int of60 = sized(b, 60);
        due.is("60 nodes", b.x.method(0, 0, NONE, NONE, INT, of60), 0);
        due.is("its nodes", b.x.tell(0, 6), 60);
        due.is("the last place", b.x.node(0, 59, 0), 0);
        due.outOfBounds("one more place", () -> b.x.node(0, 60, 0));
        calls.badState("61 nodes", RangesTest::large, x -> x.method(0, 0, NONE, NONE, INT, 63));
        // A node that is a part twice counts twice: 1, 3, 7, 15, 31, 63.
        Bench c = nodes();
        int node = 0;
        for (int i = 0; i < 4; i++) node = c.x.two(2, node, node);
        int of31 = node;
        due.is("31 nodes", c.x.method(0, 0, NONE, NONE, INT, of31), 0);
        due.is("its nodes", c.x.tell(0, 6), 31);
        due.badState("63 nodes", () -> c.x.method(0, 1, NONE, NONE, INT, c.x.two(2, of31, of31)));
        due.badState("far more than ints can count", () -> c.x.method(0, 1, NONE, NONE, INT, doubled(c, of31)));
    }

    private static int doubled(Bench b, int node) {
        int more = node;
        for (int i = 0; i < 70; i++) more = b.x.two(2, more, more);
        return more;
    }

    private static Bench swept() {
        Bench b = full(24);
        b.x.removeDead(23);
        return b;
    }

    /** The node 63 has 61 nodes. */
    private static Bench large() {
        Bench b = nodes();
        sized(b, 61);
        return b;
    }

    private static void orderForMethods() {
        // What is IndexOutOfBounds goes ahead of what is IllegalArgument, and that ahead of what is IllegalState.
        calls.outOfBounds("no class, no name", RangesTest::nodes, x -> x.method(2, 16, NONE, NONE, INT, 0));
        calls.outOfBounds("no class of the first, no name of it", RangesTest::nodes, x -> x.method(0, 0, 316, NONE, INT, 0));
        calls.outOfBounds("no class of the second, no name of the first", RangesTest::nodes, x -> x.method(0, 0, 16, 300, INT, 0));
        calls.outOfBounds("no class of the second, and no first", RangesTest::nodes, x -> x.method(0, 0, NONE, 300, INT, 0));
        calls.outOfBounds("no class of the second, first below NONE", RangesTest::nodes, x -> x.method(0, 0, -2, 300, INT, 0));
        calls.outOfBounds("returns no class, both names the same", RangesTest::nodes, x -> x.method(0, 0, 1, 1, 2, 0));
        calls.outOfBounds("no node, no name", RangesTest::nodes, x -> x.method(0, 16, NONE, NONE, INT, 3));
        calls.outOfBounds("no node, when there are 24", () -> full(24), x -> x.method(0, 0, NONE, NONE, INT, 3));
        calls.badArgument("no name, when there are 24", () -> full(24), x -> x.method(0, 16, NONE, NONE, INT, 0));
        calls.badArgument("both names the same, when there are 24", () -> full(24), x -> x.method(0, 0, 1, 1, INT, 0));
        calls.badArgument("no name of a parameter, when there are 24", () -> full(24), x -> x.method(0, 0, 16, NONE, INT, 0));
        calls.badArgument("first below NONE, and the class has one", RangesTest::overloaded, x -> x.method(0, 0, -2, NONE, INT, 0));
        calls.badArgument("no name, and 61 nodes", RangesTest::large, x -> x.method(0, 16, NONE, NONE, INT, 63));
    }

    private static void wrongAndBegin() {
        Bench b = new Bench(-1, 0);
        due.is("no method is wrong", b.x.wrong(), NONE);
        b.method(0, "a", "", INT, "1");
        b.method(1, "b", "", INT, "this");
        due.is("the last is wrong", b.x.wrong(), 1);
        b.method(1, "c", "", INT, "p");
        due.is("the lowest is told", b.x.wrong(), 1);
        Bench c = new Bench(-1, 0);
        c.method(1, "a", "", 0, "this");
        c.method(0, "a", "", INT, "1");
        due.is("the lowest can be 0, and it is the one that overrides", c.x.wrong(), 0);
        calls.badState("begin", RangesTest::notRightOnes, SmithyBench::begin);
        SmithyBench full = full(24).x;
        due.is("begin with 24", full.begin(), 24);
        due.is("one is left", full.removeDead(0), 23);
        due.is("begin with one", full.begin(), 1);
        due.is("begin again", full.begin(), 1);
        due.badState("nothing can be undone", full::undo);
        due.outOfBounds("those of before are not in the program of the beginning", () -> full.run(1, 0, 0, 0, true));
    }

    /** Methods a, b and c of class 0 with no, one and two parameters; a class below, and one by itself. */
    private static Bench three() {
        Bench b = new Bench(NONE, 0, NONE);
        b.x.fieldOf(0, 4, INT);
        b.x.fieldOf(1, 5, INT);
        b.method(0, "a", "", INT, "(let d 1 (+ d e))");
        b.method(0, "b", "a-", INT, "(let d a d)");
        b.method(0, "c", "a- b-", INT, "(let d (+ a b) d)");
        return b;
    }

    /** The same, and a fourth one that is not right. */
    private static Bench notRightOnes() {
        Bench b = three();
        b.method(0, "p", "a- b-", INT, "(let d this d)");
        return b;
    }

    private static Row[] ofMethods() {
        return new Row[] {
            new Row("renameMethod", (x, n) -> x.renameMethod(n, 9)),
            new Row("renameMethod, of no name", (x, n) -> x.renameMethod(n, 16)),
            new Row("renameLocal", (x, n) -> x.renameLocal(n, 0, 9)),
            new Row("renameLocal, of no place", (x, n) -> x.renameLocal(n, 60, 9)),
            new Row("renameLocal, of no name", (x, n) -> x.renameLocal(n, 0, 16)),
            new Row("inline", (x, n) -> x.inline(n, 0)),
            new Row("inline, of no place", (x, n) -> x.inline(n, -1)),
            new Row("extract", (x, n) -> x.extract(n, 0, 9)),
            new Row("extract, of no name", (x, n) -> x.extract(n, 0, -1)),
            new Row("addParameter", (x, n) -> x.addParameter(n, 0)),
            new Row("dropParameter", (x, n) -> x.dropParameter(n, 0)),
            new Row("pullUp", (x, n) -> x.pullUp(n)),
            new Row("pushDown", (x, n) -> x.pushDown(n)),
            new Row("removeDead", (x, n) -> x.removeDead(n)),
            new Row("tell", (x, n) -> x.tell(n, 0)),
            new Row("tell of nothing", (x, n) -> x.tell(n, 8)),
            new Row("node", (x, n) -> x.node(n, 0, 0)),
            new Row("node of nothing", (x, n) -> x.node(n, 0, 4)),
            new Row("run", (x, n) -> x.run(n, 0, 0, 0, false)),
            new Row("run of a class that is not below", (x, n) -> x.run(n, 2, 0, 0, false))};
    }

    private static void methods() {
        for (Row r : ofMethods()) {
            for (int m : new int[] {-1, -2, 3, 23, 24, 32, LEAST, GREATEST}) calls.outOfBounds(r.name() + " " + m, RangesTest::three, x -> r.call().go(x, m));
            for (int m : new int[] {-1, 4, LEAST, GREATEST}) calls.outOfBounds(r.name() + " " + m + ", not right", RangesTest::notRightOnes, x -> r.call().go(x, m));
            for (int m : new int[] {-1, 24, 32}) calls.outOfBounds(r.name() + " " + m + ", of 24", () -> full(24), x -> r.call().go(x, m));
        }
        for (Row r : ofMethods()) {
            if (r.name().contains(",") || r.name().contains("of ")) continue;
            for (int m : new int[] {1, 2}) due.same(r.name() + " " + m, Later.answer(three().x, x -> r.call().go(x, m)).replaceAll("-?\\d+", "is there"), "is there");
        }
        due.is("the first", three().x.renameMethod(0, 9), 0);
        due.is("the 24th", full(24).x.tell(23, 1), 7);
        due.is("changed", full(24).x.addParameter(23, 1), 0);
    }

    private static Bench gone() {
        Bench b = three();
        b.method(0, "d", "", INT, "1");
        b.x.removeDead(0);
        return b;
    }

    private static void goneMethods() {
        for (Row r : ofMethods()) for (int m = 1; m < 4; m++) {
            int method = m;
            calls.outOfBounds(r.name() + " " + m, RangesTest::gone, x -> r.call().go(x, method));
        }
        due.outOfBounds("run of the beginning", () -> begunWithout().run(1, 0, 0, 0, true));
        due.is("run of the beginning, of what was gone later", begunWith().run(1, 0, 7, 0, true), SmithyBench.NUMBER);
    }

    private static SmithyBench begunWithout() {
        SmithyBench x = gone().x;
        x.begin();
        return x;
    }

    private static SmithyBench begunWith() {
        SmithyBench x = three().x;
        x.begin();
        x.removeDead(0);
        return x;
    }

    private static Row[] ofPlaces() {
        return new Row[] {
            new Row("renameLocal", (x, n) -> x.renameLocal(0, n, 9)),
            new Row("renameLocal, of no name", (x, n) -> x.renameLocal(0, n, 16)),
            new Row("inline", (x, n) -> x.inline(0, n)),
            new Row("extract", (x, n) -> x.extract(0, n, 9)),
            new Row("extract, of no name", (x, n) -> x.extract(0, n, -1)),
            new Row("node", (x, n) -> x.node(0, n, 0)),
            new Row("node of nothing", (x, n) -> x.node(0, n, 4))};
    }

    private static void places() {
        // Method 0 has places 0 to 4, and no parameter.
        for (Row r : ofPlaces()) {
            for (int p : new int[] {-1, -2, -3, 5, 59, 60, 61, 256, LEAST, GREATEST}) {
                calls.outOfBounds(r.name() + " " + p, RangesTest::three, x -> r.call().go(x, p));
                calls.outOfBounds(r.name() + " " + p + ", not right", RangesTest::notRightOnes, x -> r.call().go(x, p));
            }
        }
        due.is("renameLocal 0", three().x.renameLocal(0, 0, 9), 1);
        due.is("renameLocal 4", three().x.renameLocal(0, 4, 9), SmithyBench.NOT_THAT);
        due.is("inline 0", three().x.inline(0, 0), SmithyBench.NOT_THAT);
        due.is("inline 4", three().x.inline(0, 4), SmithyBench.NOT_THAT);
        due.is("extract 0", three().x.extract(0, 0, 9), 301);
        due.is("extract 4", three().x.extract(0, 4, 9), 301);
        due.is("node 0", three().x.node(0, 0, 0), 5);
        due.is("node 4", three().x.node(0, 4, 1), 4);
    }

    private static void parameters() {
        for (int m = 0; m < 3; m++) {
            int method = m;
            for (int p : new int[] {-1, -2, 2, 3, LEAST, GREATEST, m, m + 1}) {
                calls.outOfBounds("dropParameter " + m + ", " + p, RangesTest::three, x -> x.dropParameter(method, p));
                calls.outOfBounds("dropParameter " + m + ", " + p + ", not right", RangesTest::notRightOnes, x -> x.dropParameter(method, p));
            }
            // Told as -1 and -2: one more than there are, and far more.
            for (int p : new int[] {-1 - m, -2 - m, -3, -4, LEAST}) {
                calls.outOfBounds("renameLocal " + m + ", " + p, RangesTest::three, x -> x.renameLocal(method, p, 9));
                calls.outOfBounds("renameLocal " + m + ", " + p + ", of no name", RangesTest::three, x -> x.renameLocal(method, p, 16));
            }
        }
        due.is("the only one", three().x.renameLocal(1, -1, 9), 1);
        due.is("the first of two", three().x.renameLocal(2, -1, 9), 1);
        due.is("the second of two", three().x.renameLocal(2, -2, 9), 1);
        due.is("drop the only one", three().x.dropParameter(1, 0), SmithyBench.USED);
        due.is("drop the first of two", three().x.dropParameter(2, 0), SmithyBench.USED);
        due.is("drop the second of two", three().x.dropParameter(2, 1), SmithyBench.USED);
    }

    private static Row[] withNames() {
        return new Row[] {
            new Row("renameMethod", (x, n) -> x.renameMethod(1, n)),
            new Row("renameField", (x, n) -> x.renameField(1, 5, n)),
            new Row("renameLocal of a LET", (x, n) -> x.renameLocal(1, 0, n)),
            new Row("renameLocal of the first", (x, n) -> x.renameLocal(2, -1, n)),
            new Row("renameLocal of the second", (x, n) -> x.renameLocal(2, -2, n)),
            new Row("extract", (x, n) -> x.extract(1, 1, n)),
            new Row("enclose, getter", (x, n) -> x.enclose(1, 5, n, 9)),
            new Row("enclose, setter", (x, n) -> x.enclose(1, 5, 9, n))};
    }

    private static void namesOfChanges() {
        for (Row r : withNames()) {
            for (int name : new int[] {-1, 16, 31, 32, LEAST, GREATEST}) {
                calls.badArgument(r.name() + " " + name, RangesTest::three, x -> r.call().go(x, name));
                calls.badArgument(r.name() + " " + name + ", not right", RangesTest::notRightOnes, x -> r.call().go(x, name));
            }
            due.is(r.name() + " 15", r.call().go(three().x, 15) < 0 ? -1 : 0, 0);
        }
        Bench b = new Bench(-1);
        b.x.fieldOf(0, 3, INT);
        b.method(0, "d", "b- c-", INT, "(let e 1 (+ b c))");
        due.is("renameMethod 0", b.x.renameMethod(0, 0), 0);
        due.is("renameField 0", b.x.renameField(0, 3, 0), 0);
        due.is("extract 0, with two", b.x.extract(0, 2, 0), SmithyBench.CLASH);
        due.is("extract 0, with one", b.x.extract(0, 3, 0), 102);
        due.is("renameLocal 0 of a LET", b.x.renameLocal(0, 0, 0), 0);
        b.x.undo();
        due.is("renameLocal 0 of a parameter", b.x.renameLocal(0, -2, 0), 1);
        due.is("enclose, 0 and 0", b.x.enclose(0, 0, 0, 0), SmithyBench.CLASH);
        due.is("renameMethod", b.x.renameMethod(1, 4), 2);
        due.is("enclose, 0 and 0, now that one has another name", b.x.enclose(0, 0, 0, 0), 0);
    }

    private static void ownNames() {
        calls.badArgument("of a method", RangesTest::three, x -> x.renameMethod(1, 1));
        calls.badArgument("of a field", RangesTest::three, x -> x.renameField(1, 5, 5));
        calls.badArgument("of a LET", RangesTest::three, x -> x.renameLocal(1, 0, 3));
        calls.badArgument("of the first", RangesTest::three, x -> x.renameLocal(2, -1, 0));
        calls.badArgument("of the second", RangesTest::three, x -> x.renameLocal(2, -2, 1));
        calls.badArgument("of a method, not right", RangesTest::notRightOnes, x -> x.renameMethod(1, 1));
        calls.badArgument("of a field, not right", RangesTest::notRightOnes, x -> x.renameField(1, 5, 5));
        calls.badArgument("of a LET, not right", RangesTest::notRightOnes, x -> x.renameLocal(1, 0, 3));
        calls.badArgument("of the second, not right", RangesTest::notRightOnes, x -> x.renameLocal(2, -2, 1));
    }

    private static void fieldsOfChanges() {
        // Class 0 has the field 4 and class 1, below it, the field 5.
        int[][] none = {{-1, 4}, {3, 4}, {6, 4}, {LEAST, 4}, {GREATEST, 4}, {0, -1}, {0, 16}, {0, LEAST}, {0, GREATEST}, {0, 5}, {1, 4}, {2, 4}, {0, 3}, {0, 20}, {1, -11}};
        for (int[] f : none) {
            String what = f[1] + " of " + f[0];
            calls.outOfBounds("renameField " + what, RangesTest::three, x -> x.renameField(f[0], f[1], 9));
            calls.outOfBounds("renameField " + what + ", no name", RangesTest::three, x -> x.renameField(f[0], f[1], 16));
            calls.outOfBounds("renameField " + what + ", its own", RangesTest::three, x -> x.renameField(f[0], f[1], f[1]));
            calls.outOfBounds("renameField " + what + ", not right", RangesTest::notRightOnes, x -> x.renameField(f[0], f[1], 9));
            calls.outOfBounds("enclose " + what, RangesTest::three, x -> x.enclose(f[0], f[1], 9, 9));
            calls.outOfBounds("enclose " + what + ", no name", RangesTest::three, x -> x.enclose(f[0], f[1], 16, -1));
            calls.outOfBounds("enclose " + what + ", not right", RangesTest::notRightOnes, x -> x.enclose(f[0], f[1], 9, 9));
        }
        due.is("renameField 4 of 0", three().x.renameField(0, 4, 9), 1);
        due.is("enclose 5 of 1", three().x.enclose(1, 5, 9, 9), 0);
    }

    private static void notRight() {
        // All in range, and nothing that another exception is for: what is not right comes last.
        for (Row r : ofMethods()) {
            if (r.name().contains("of ") || r.name().startsWith("tell") || r.name().startsWith("node")) continue;
            int m = r.name().startsWith("run") ? 0 : 2;
            calls.badState(r.name(), RangesTest::notRightOnes, x -> r.call().go(x, m));
        }
        for (Row r : withNames()) calls.badState(r.name(), RangesTest::notRightOnes, x -> r.call().go(x, 9));
        calls.badState("begin", RangesTest::notRightOnes, SmithyBench::begin);
        calls.badState("a CLASH", RangesTest::notRightOnes, x -> x.renameMethod(1, 15));
        calls.badState("NOT_THAT", RangesTest::notRightOnes, x -> x.pullUp(0));
        SmithyBench x = notRightOnes().x;
        due.is("asking is no changing", x.tell(3, 2), 2);
        due.is("type", x.node(2, 0, 2), 0);
        due.is("bound", x.node(2, 2, 3), 0);
        due.is("value", x.node(2, 2, 1), 0);
    }

    private static void whats() {
        for (int what : new int[] {-1, 8, LEAST, GREATEST}) {
            calls.badArgument("tell " + what, RangesTest::three, x -> x.tell(0, what));
            calls.badArgument("tell " + what + ", not right", RangesTest::notRightOnes, x -> x.tell(0, what));
        }
        for (int what : new int[] {-1, 4, LEAST, GREATEST}) {
            calls.badArgument("node " + what, RangesTest::three, x -> x.node(0, 0, what));
            calls.badArgument("node " + what + ", not right", RangesTest::notRightOnes, x -> x.node(0, 0, what));
        }
        int[] told = {0, 2, 2, 0, 1, INT, 5, 1};
        for (int what = 0; what < 8; what++) due.is("tell " + what, three().x.tell(2, what), told[what]);
        int[] asked = {1, 1, INT, -2};
        for (int what = 0; what < 4; what++) due.is("node " + what, three().x.node(2, 3, what), asked[what]);
    }

    private static void runs() {
        for (int of : new int[] {-1, 3, 6, LEAST, GREATEST}) {
            calls.outOfBounds("class " + of, RangesTest::three, x -> x.run(0, of, 0, 0, false));
            due.outOfBounds("class " + of + ", of the beginning", () -> begunWith().run(0, of, 0, 0, true));
        }
        calls.badArgument("a class by itself", RangesTest::three, x -> x.run(0, 2, 0, 0, false));
        due.is("a class below", three().x.run(0, 1, 0, 0, false), SmithyBench.NUMBER);
        SmithyBench x = three().x;
        for (int n : new int[] {0, -1, LEAST, GREATEST}) {
            due.is("any number", x.run(1, 0, n, 0, false), SmithyBench.NUMBER);
            due.is("value", x.value(), n);
            due.is("what is without a parameter does not matter", x.run(0, 0, n, n, false), SmithyBench.NUMBER);
            due.is("value", x.value(), 1);
        }
        due.is("both", x.run(2, 0, 3, 4, false), SmithyBench.NUMBER);
        due.is("value", x.value(), 7);
    }

    /** Method 0 of class 1 takes an object and a number, method 1 a number and an object; class 2 is by itself. */
    private static Bench taking(boolean isRight) {
        Bench b = new Bench(NONE, 0, NONE);
        b.method(1, "a", "a0 b-", INT, "b");
        b.method(1, "b", "a- b0", INT, "a");
        b.method(1, "c", "a- b-", INT, isRight ? "a" : "c");
        return b;
    }

    private static void orderForRuns() {
        calls.badState("none was begun with, ahead of all", () -> taking(false), x -> x.run(9, 9, 0, 0, true));
        calls.badState("none was begun with, ahead of no class", () -> taking(true), x -> x.run(0, 9, 0, 0, true));
        calls.badState("none was begun with, ahead of a class that is not below", () -> taking(true), x -> x.run(2, 0, 0, 0, true));
        calls.badState("none was begun with", () -> taking(true), x -> x.run(2, 1, 0, 0, true));
        calls.outOfBounds("no method, ahead of what is not right", () -> taking(false), x -> x.run(3, 1, 0, 0, false));
        calls.outOfBounds("no class, ahead of a parameter that is not INT", () -> taking(false), x -> x.run(0, 3, 0, 0, false));
        calls.badArgument("a class above, ahead of what is not right", () -> taking(false), x -> x.run(2, 0, 0, 0, false));
        calls.badArgument("the first one is not INT", () -> taking(true), x -> x.run(0, 1, 0, 0, false));
        calls.badArgument("the second one is not INT", () -> taking(true), x -> x.run(1, 1, 0, 0, false));
        calls.badArgument("not INT, ahead of what is not right", () -> taking(false), x -> x.run(0, 1, 0, 0, false));
        calls.badState("not right", () -> taking(false), x -> x.run(2, 1, 0, 0, false));
        SmithyBench x = taking(true).x;
        x.begin();
        x.method(2, 0, NONE, NONE, INT, x.self());
        due.badState("not right now", () -> x.run(2, 1, 5, 0, false));
        due.is("it was right", x.run(2, 1, 5, 0, true), SmithyBench.NUMBER);
        due.is("value", x.value(), 5);
    }

    private static void lastRun() {
        Bench b = new Bench(-1, 0);
        b.x.fieldOf(0, 0, 0);
        b.method(0, "a", "a-", INT, "a");
        b.method(0, "b", "", 0, "new1");
        b.method(0, "c", "", 0, "a");
        b.method(0, "d", "a-", INT, "(raise a)");
        b.method(0, "e", "", 0, "(field a a)");
        b.method(0, "f", "", INT, "(call f this)");
        due.is("value, without a run", b.x.value(), 0);
        due.is("steps, without a run", b.x.steps(), 0);
        int[][] want = {{0, -7, 1}, {1, 1, 1}, {2, 0, 1}, {3, -7, 2}, {4, 0, 2}, {5, 0, 40}};
        for (int i = 0; i < 12; i++) {
            // Behind each other way to end: what that left is gone.
            int m = i < 6 ? i : 11 - i;
            b.x.run(0, 0, -9, 0, false);
            due.is("how " + m, b.x.run(m, 0, -7, 0, false), want[m][0]);
            due.is("value of " + m, b.x.value(), want[m][1]);
            due.is("steps of " + m, b.x.steps(), want[m][2]);
            due.is("value, asked again", b.x.value(), want[m][1]);
        }
        b.x.run(0, 0, LEAST, 0, false);
        due.is("the least", b.x.value(), LEAST);
        b.x.run(3, 0, GREATEST, 0, false);
        due.is("the greatest", b.x.value(), GREATEST);
        b.x.run(1, 1, 0, 0, false);
        b.x.begin();
        b.x.renameMethod(0, 9);
        b.x.undo();
        b.x.classOf(0);
        due.is("the last run is still the last one", b.x.value(), 1);
        due.is("and its steps", b.x.steps(), 1);
    }
}
