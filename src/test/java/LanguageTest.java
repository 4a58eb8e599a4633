/** "The language", sentence by sentence: classes, methods, trees, bindings, types, and what is right. */
public final class LanguageTest {
    private static final Due due = new Due("language");
    private static final int INT = SmithyBench.INT, NEVER = SmithyBench.NEVER, RIGHT = SmithyBench.NONE;

    public static void main(String[] arguments) {
        due.part("at or below", LanguageTest::atOrBelow);
        due.part("numbers of methods", LanguageTest::numbersOfMethods);
        due.part("numbers that are given again", LanguageTest::numbersGivenAgain);
        due.part("methods of a name", LanguageTest::methodsOfAName);
        due.part("overriding", LanguageTest::overriding);
        due.part("trees", LanguageTest::trees);
        due.part("bindings of VARs", LanguageTest::vars);
        due.part("bindings of SETs", LanguageTest::sets);
        due.part("bindings to fields", LanguageTest::fieldsOfClasses);
        due.part("bindings of FIELDs and PUTs", LanguageTest::accesses);
        due.part("bindings of CALLs", LanguageTest::calls);
        due.part("types of nodes", LanguageTest::types);
        due.part("types of TEST and GUARD", LanguageTest::joined);
        due.part("what fits", LanguageTest::fitting);
        due.part("what a class is needed for", LanguageTest::classNeeded);
        due.part("what is right", LanguageTest::right);
        due.end();
    }

    private static void atOrBelow() {
        Bench b = new Bench(-1, 0, 1, 2, 3, 4);
        for (int c = 0; c < 6; c++) b.x.method(c, c, -1, -1, c, b.tell("this"));
        for (int m = 0; m < 6; m++) {
            int method = m;
            for (int c = 0; c < 6; c++) {
                int of = c;
                if (c >= m) due.is("a method of " + m + " on " + c, b.x.run(m, c, 0, 0, false), SmithyBench.OBJECT);
                else due.badArgument("a method of " + m + " on " + c, () -> b.x.run(method, of, 0, 0, false));
                if (c >= m) due.is("value", b.x.value(), c);
                due.is(m + " for " + c, fits(new int[] {-1, 0, 1, 2, 3, 4}, m, c), m >= c ? 1 : 0);
            }
        }
        // 2 and 4 below 0, and 3 and 5 below 1: numbers alone tell nothing.
        int[] two = {-1, -1, 0, 1, 2, 3};
        for (int low = 0; low < 6; low++) for (int high = 0; high < 6; high++) due.is(low + " for " + high + ", of two", fits(two, low, high), low >= high && low % 2 == high % 2 ? 1 : 0);
    }

    /** Whether an object of one class fits another one. */
    private static int fits(int[] parents, int low, int high) {
        Bench b = new Bench(parents);
        b.x.method(0, 0, -1, -1, high, b.x.make(low));
        return b.x.wrong() == RIGHT ? 1 : 0;
    }

    private static void numbersOfMethods() {
        Bench b = new Bench(-1, 0, 0, -1);
        b.x.fieldOf(3, 0, INT);
        int n = b.x.number(1);
        for (int m = 0; m < 17; m++) due.is("told", b.x.method(3, m % 16, m < 16 ? -1 : 5, -1, INT, n), m);
        due.is("one more, told", b.x.method(0, 0, -1, -1, INT, n), 17);
        due.is("by extracting", b.x.extract(17, 0, 9), 1801);
        due.is("by pushing down", b.x.pushDown(17), 2);
        due.is("its copy", b.x.tell(19, 0), 2);
        due.is("by pushing down what these call", b.x.pushDown(18), 2);
        due.is("its copy", b.x.tell(20, 0), 2);
        due.is("by putting a field behind methods", b.x.enclose(3, 0, 0, 15), SmithyBench.CLASH);
        due.is("gone", b.x.removeDead(18), 20);
        due.is("by putting a field behind methods", b.x.enclose(3, 0, 0, 15), 0);
        due.is("the getter", b.x.tell(21, 2), 0);
        due.is("the setter", b.x.tell(22, 2), 1);
        due.is("the last number", b.x.extract(22, 1, 9), 2301);
        due.is("none is left, however few methods are there", b.x.begin(), 4);
        due.badState("none is left to be told", () -> b.x.method(0, 15, -1, -1, INT, n));
        due.is("none is left to be extracted", b.x.extract(18, 0, 14), SmithyBench.TOO_MANY);
        due.is("none is left to be pulled up, which needs none", b.x.pullUp(18), 0);
        due.is("none is left to be pushed down to two", b.x.pushDown(18), SmithyBench.TOO_MANY);
    }

    private static void numbersGivenAgain() {
        Bench b = new Bench(-1, 0, 0);
        b.method(0, "a", "", INT, "1");
        b.method(0, "b", "", INT, "2");
        due.is("gone", b.x.removeDead(1), 1);
        due.is("extracted", b.x.extract(1, 0, 5), 201);
        due.is("undone", b.x.undo(), 1);
        due.is("its number is given again", b.x.extract(1, 0, 6), 201);
        due.is("pushed down", b.x.pushDown(2), SmithyBench.USED);
        due.is("undone", b.x.undo(), 1);
        due.is("pushed down, with a copy", b.x.pushDown(1), 2);
        due.is("the copy", b.x.tell(2, 0), 2);
        due.is("undone", b.x.undo(), 1);
        due.outOfBounds("no copy", () -> b.x.tell(2, 0));
        due.is("undone, too", b.x.undo(), 0);
        due.is("back", b.x.tell(0, 6), 1);
        b.x.removeDead(1);
        due.is("that of one that is gone is not", b.method(0, "c", "", INT, "3"), 2);
        due.badState("told later", b.x::undo);
        due.outOfBounds("gone", () -> b.x.tell(0, 0));
        // All of a family below: the method is gone, and so is its number.
        Bench c = new Bench(-1, 0);
        c.method(0, "a", "", INT, "1");
        c.method(1, "a", "", INT, "2");
        due.is("pushed down to none", c.x.pushDown(0), 0);
        due.is("the next number", c.x.extract(1, 0, 5), 201);
        due.is("undone", c.x.undo(), 1);
        due.is("undone", c.x.undo(), 0);
        due.is("back", c.x.tell(0, 0), 0);
    }

    private static void methodsOfAName() {
        Bench b = new Bench(-1, 0);
        b.method(0, "a", "", INT, "0");
        b.method(0, "a", "a-", INT, "1");
        b.method(0, "a", "a- b-", INT, "2");
        b.method(1, "a", "a-", INT, "3");
        b.method(0, "b", "", INT, "(+ (call a this) (+ (* 10 (call a this 7)) (* 100 (call a this 7 8))))");
        for (int m = 0; m < 3; m++) due.is("its family", b.x.tell(m, 7), m == 1 ? 2 : 1);
        due.is("right", b.x.wrong(), RIGHT);
        due.is("run", b.x.run(4, 0, 0, 0, false), 0);
        due.is("by how many", b.x.value(), 210);
        b.x.run(4, 1, 0, 0, false);
        due.is("by how many, below", b.x.value(), 230);
        due.badState("one more with none", () -> b.method(0, "a", "", INT, "0"));
        due.badState("one more with one, of another type", () -> b.method(0, "a", "d0", 0, "0"));
        due.badState("one more with two", () -> b.method(0, "a", "b- a-", INT, "0"));
        due.is("of another class", b.method(1, "a", "", INT, "0"), 5);
    }

    /** The lowest wrong one of two methods that are told as a class, a name, parameters and what is returned. */
    private static int wrongOf(String... told) {
        Bench b = new Bench(-1, 0, 1, 0);
        for (String t : told) {
            String[] s = t.split(",");
            int returns = Integer.parseInt(s[3].trim());
            b.method(Integer.parseInt(s[0]), s[1].trim(), s[2].trim(), returns, returns == INT ? "1" : "new" + returns);
        }
        return b.x.wrong();
    }

    private static void overriding() {
        due.is("the same types", wrongOf("0, a, a- b1, 0", "1, a, c- d1, 0"), RIGHT);
        due.is("returns another one", wrongOf("0, a, , 0", "1, a, , -1"), 1);
        due.is("returns one that is below", wrongOf("0, a, , 0", "1, a, , 1"), 1);
        due.is("returns one that is above", wrongOf("0, a, , 1", "1, a, , 0"), 1);
        due.is("takes one that is below", wrongOf("0, a, a0, 0", "1, a, a1, 0"), 1);
        due.is("takes one that is above", wrongOf("0, a, a1, 0", "1, a, a0, 0"), 1);
        due.is("takes a class for INT", wrongOf("0, a, a-, 0", "1, a, a0, 0"), 1);
        due.is("another one as the second", wrongOf("0, a, a- b-, 0", "1, a, a- b0, 0"), 1);
        due.is("another name", wrongOf("0, a, , 0", "1, b, , -1"), RIGHT);
        due.is("not as many parameters", wrongOf("0, a, , 0", "1, a, a-, -1"), RIGHT);
        due.is("two below", wrongOf("0, a, , 0", "2, a, , -1"), 1);
        due.is("beside", wrongOf("1, a, , 0", "3, a, , -1"), RIGHT);
        due.is("above, told later", wrongOf("1, a, , 0", "0, a, , -1"), 0);
        due.is("two that override", wrongOf("1, a, , 0", "3, a, , 0", "0, a, , -1"), 0);
        due.is("the next one above is the same, the one above that is not", wrongOf("0, a, , 0", "2, a, , -1", "1, a, , -1"), 1);
    }

    private static void trees() {
        // A node that is told once is a node of its own wherever it is a part.
        Bench b = new Bench(-1);
        int v = b.x.var(0), sum = b.x.two(2, v, v);
        int twice = b.x.two(2, sum, b.x.let(0, sum, sum));
        b.x.method(0, 0, 0, -1, INT, twice);
        due.is("nodes", b.x.tell(0, 6), 11);
        int[] bound = {0, 0, -1, -1, 0, 0, -1, -1, 0, 4, 4};
        for (int i = 0; i < 11; i++) due.is("bound " + i, b.x.node(0, i, 3), bound[i]);
        b.x.method(0, 1, 0, -1, INT, twice);
        due.is("renamed in one", b.x.renameLocal(0, 4, 5), 2);
        due.body(b.x, 0, "(+ (+ a a) (let f (+ a a) (+ f f)))");
        due.body(b.x, 1, "(+ (+ a a) (let a (+ a a) (+ a a)))");
        b.x.method(0, 2, 0, -1, INT, twice);
        due.body(b.x, 2, "(+ (+ a a) (let a (+ a a) (+ a a)))");
    }

    /** What a VAR named a in a body of a class with a field a, and a parameter a, is bound to; 9 if the program is not right. */
    private static int boundAt(String parameters, String body, int place) {
        Bench b = new Bench(-1, 0, 1);
        b.x.fieldOf(0, 0, INT);
        b.x.fieldOf(2, 1, INT);
        b.method(1, "a", parameters, INT, body);
        return b.x.wrong() == RIGHT ? b.x.node(0, place, 3) : 9;
    }

    private static void vars() {
        due.is("the field", boundAt("", "a", 0), 1000);
        due.is("a parameter ahead of a field", boundAt("a-", "a", 0), -1);
        due.is("the second parameter", boundAt("c- a-", "a", 0), -2);
        due.is("a LET ahead of a parameter", boundAt("a-", "(let a 1 a)", 2), 0);
        due.is("the innermost LET", boundAt("a-", "(let a 1 (let a 2 a))", 4), 2);
        due.is("a LET of another name", boundAt("a-", "(let b 1 a)", 2), -1);
        due.is("in the v of a LET", boundAt("a-", "(let a a 1)", 1), -1);
        due.is("in the v of the inner one", boundAt("a-", "(let a 1 (let a a 1))", 3), 0);
        due.is("a LET in the v of a LET", boundAt("", "(let a (let a 1 2) a)", 4), 0);
        due.is("in the b of a LET in the v", boundAt("", "(let a (let a 1 a) 2)", 3), 1);
        due.is("behind a LET", boundAt("a-", "(+ (let a 1 2) a)", 4), -1);
        due.is("ahead of a LET", boundAt("", "(+ a (let a 1 2))", 1), 1000);
        due.is("deep in the b", boundAt("", "(let a 1 (test 0 1 (+ 2 (raise a))))", 8), 0);
        due.is("the field of a class below", boundAt("", "b", 0), 9);
        due.is("a name of nothing", boundAt("", "c", 0), 9);
        due.is("a LET around something else", boundAt("", "(+ (let c 1 c) c)", 4), 9);
    }

    private static void sets() {
        due.is("the field", boundAt("", "(set a 1)", 0), 1000);
        due.is("a parameter", boundAt("a-", "(set a 1)", 0), -1);
        due.is("the second parameter", boundAt("c- a-", "(set a 1)", 0), -2);
        due.is("a LET", boundAt("a-", "(let a 1 (set a 2))", 2), 0);
        due.is("the innermost LET", boundAt("", "(let a 1 (let a 2 (set a 3)))", 4), 2);
        due.is("in the v of a LET", boundAt("", "(let a (set a 1) 2)", 1), 1000);
        due.is("a SET holds nothing of its name", boundAt("a-", "(+ (set a 1) a)", 3), -1);
        due.is("the v of a SET", boundAt("a-", "(set a a)", 1), -1);
        due.is("a name of nothing", boundAt("", "(set c 1)", 0), 9);
    }

    private static void fieldsOfClasses() {
        Bench b = new Bench(-1, 0, 1, 0);
        for (int c = 0; c < 4; c++) b.x.fieldOf(c, c, INT);
        b.method(2, "a", "", INT, "(+ a (+ b c))");
        int[] bound = {0, 1000, 0, 1001, 1002};
        for (int i = 0; i < 5; i++) due.is("bound " + i, b.x.node(0, i, 3), bound[i]);
        b.method(2, "b", "", INT, "d");
        due.is("the field of a class beside", b.x.wrong(), 1);
    }

    private static void accesses() {
        Bench b = new Bench(-1, 0, 1);
        for (int c = 0; c < 3; c++) b.x.fieldOf(c, c, INT);
        b.method(1, "a", "a- b2", INT, "(+ (field a this) (+ (field a b) (+ (field c b) (let a 1 (put a this a)))))");
        // 0 +, 1 FIELD, 2 THIS, 3 +, 4 FIELD, 5 VAR, 6 +, 7 FIELD, 8 VAR, 9 LET, 10 NUMBER, 11 PUT, 12 THIS, 13 VAR
        int[] bound = {0, 1000, 0, 0, 1000, -2, 0, 1002, -2, 0, 0, 1000, 0, 9};
        for (int i = 0; i < 14; i++) due.is("bound " + i, b.x.node(0, i, 3), bound[i]);
        b.method(1, "b", "", INT, "(field c this)");
        due.is("a field of a class below that of r", b.x.wrong(), 1);
        Bench c = new Bench(-1, 0, 1);
        for (int k = 0; k < 3; k++) c.x.fieldOf(k, k, INT);
        c.method(1, "a", "", INT, "(put c this 1)");
        due.is("a PUT of a field of a class below", c.x.wrong(), 0);
        Bench d = new Bench(-1);
        d.method(0, "a", "a-", INT, "(let b 1 (field b this))");
        due.is("a local is no field", d.x.wrong(), 0);
    }

    private static void calls() {
        Bench b = new Bench(-1, 0, 1, 2, 0);
        b.method(0, "a", "", INT, "0");
        b.method(2, "a", "", INT, "2");
        b.method(1, "a", "a-", INT, "1");
        b.method(4, "a", "", INT, "4");
        b.method(0, "b", "", INT, "(+ (call a new0) (+ (call a new1) (+ (call a new2) (+ (call a new3) (+ (call a new4) (call a new3 1))))))");
        int[] bound = {2000, 2000, 2001, 2001, 2003, 2002};
        for (int i = 0; i < 6; i++) due.is("of a class " + i, b.x.node(4, i < 5 ? 3 * i + 1 : 15, 3), bound[i]);
        due.is("right", b.x.wrong(), RIGHT);
        b.method(0, "c", "", INT, "(call a new0 1)");
        due.is("of a class below alone", b.x.wrong(), 5);
        Bench c = new Bench(-1, 0);
        c.method(1, "a", "", INT, "1");
        c.method(0, "b", "", INT, "(call a this 1)");
        due.is("with one too many", c.x.wrong(), 1);
        Bench d = new Bench(-1, 0);
        d.method(0, "a", "a-", INT, "1");
        d.method(1, "b", "", INT, "(call a this)");
        due.is("with one too few", d.x.wrong(), 1);
    }

    /** The type of the root of a body in class 1, below 0 and beside 2, with an INT a and an object b of 1; -9 if it is not right. */
    private static int type(String body) {
        for (int returns : new int[] {INT, 0, 2}) {
            Bench b = new Bench(-1, 0, 0);
            b.x.fieldOf(0, 2, 0);
            b.x.fieldOf(0, 3, INT);
            b.method(0, "f", "a0", 0, "a");
            b.method(0, "g", "a-", INT, "a");
            b.method(1, "a", "a- b1", returns, body);
            if (b.x.wrong() == RIGHT) return b.x.node(2, 0, 2);
        }
        return -9;
    }

    private static void types() {
        String[] bodies = {
            "7", "a", "b", "c", "d", "this", "(field c this)", "(field d b)", "(put c this b)", "(put d this (raise 1))", "(put c this (raise 1))",
            "(set a (raise 1))", "(set c this)", "(set c (raise 1))", "(let e 1 this)", "(let e this 1)", "(let e 1 (raise e))", "(let e (raise 1) e)",
            "(let e (raise 1) 1)", "(seq 1 this)", "(seq this 1)", "(seq 1 (raise 1))", "(seq (raise 1) this)", "new1", "new0", "(raise 1)",
            "(raise (raise 1))", "(+ 1 2)", "(+ (raise 1) 2)", "(< 1 (raise 2))", "(call f this b)", "(call f this (raise 1))", "(call g this (raise 1))",
            "(call g b a)", "(set b (raise 1))"};
        int[] types = {
            INT, INT, 1, 0, INT, 1, 0, INT, 0, INT, 0,
            INT, 0, 0, 1, INT, NEVER, NEVER,
            INT, 1, INT, NEVER, 1, 1, 0, NEVER,
            NEVER, INT, INT, INT, 0, 0, INT,
            INT, 1};
        for (int i = 0; i < bodies.length; i++) due.is(bodies[i], type(bodies[i]), types[i]);
        String[] wrong = {
            "(set a this)", "(set b new0)", "(set c 1)", "(put c this 1)", "(put d this this)", "(let e (raise 1) (set e 1))", "(raise this)",
            "(+ this 1)", "(- 1 this)", "(call f this 1)", "(call g this this)", "(let e this (+ e 1))", "(seq (+ this 1) 1)"};
        for (String body : wrong) due.is(body, type(body), -9);
    }

    private static void joined() {
        String[] parts = {"1 2", "this new0", "new0 this", "this this", "(raise 1) this", "this (raise 1)", "(raise 1) 2", "2 (raise 1)", "(raise 1) (raise 2)", "c b", "b c"};
        int[] types = {INT, 0, 0, 1, 1, 1, INT, INT, NEVER, 0, 0};
        for (int i = 0; i < parts.length; i++) {
            due.is("TEST of " + parts[i], type("(test a " + parts[i] + ")"), types[i]);
            due.is("TEST of NEVER, of " + parts[i], type("(test (raise 1) " + parts[i] + ")"), types[i]);
            due.is("GUARD of " + parts[i], type("(guard " + parts[i] + ")"), types[i]);
            due.is("TEST of a class, of " + parts[i], type("(test this " + parts[i] + ")"), -9);
        }
        // Two classes below one do not fit each other, whatever is above both.
        for (String other : new String[] {"1 this", "this 1", "this new2", "new2 this", "new2 1"}) {
            due.is("TEST of " + other, type("(test 1 " + other + ")"), -9);
            due.is("GUARD of " + other, type("(guard " + other + ")"), -9);
        }
    }

    private static int wrongWith(int returns, String body) {
        Bench b = new Bench(-1, 0, 1, -1);
        b.method(1, "a", "a- b1", returns, body);
        return b.x.wrong();
    }

    private static void fitting() {
        due.is("INT for INT", wrongWith(INT, "a"), RIGHT);
        due.is("INT for a class", wrongWith(0, "a"), 0);
        due.is("a class for INT", wrongWith(INT, "b"), 0);
        due.is("a class for itself", wrongWith(1, "b"), RIGHT);
        due.is("a class for the one above", wrongWith(0, "b"), RIGHT);
        due.is("a class for the one below", wrongWith(2, "b"), 0);
        due.is("a class for one that is not akin", wrongWith(3, "b"), 0);
        due.is("two below for the one above", wrongWith(0, "new2"), RIGHT);
        due.is("NEVER for INT", wrongWith(INT, "(raise 1)"), RIGHT);
        due.is("NEVER for a class", wrongWith(3, "(raise 1)"), RIGHT);
    }

    private static void classNeeded() {
        String[] rs = {"this", "b", "(let e this e)", "(test 1 this b)", "(guard (raise 1) this)"};
        for (String r : rs) {
            due.is("FIELD of " + r, type("(field d " + r + ")"), INT);
            due.is("PUT of " + r, type("(put d " + r + " 1)"), INT);
            due.is("CALL of " + r, type("(call g " + r + " 1)"), INT);
        }
        String[] not = {"1", "a", "(raise 1)", "(let e (raise 1) e)", "(+ 1 2)", "d", "(test 1 (raise 1) (raise 2))"};
        for (String r : not) {
            due.is("FIELD of " + r, type("(field d " + r + ")"), -9);
            due.is("PUT of " + r, type("(put d " + r + " 1)"), -9);
            due.is("CALL of " + r, type("(call g " + r + " 1)"), -9);
        }
    }

    private static void right() {
        Bench b = new Bench(-1, 0);
        due.is("without methods", b.x.wrong(), RIGHT);
        b.method(0, "a", "", INT, "(call b this)");
        due.is("a CALL of what is not there yet", b.x.wrong(), 0);
        b.method(1, "b", "", INT, "1");
        due.is("of a class below", b.x.wrong(), 0);
        b.method(0, "b", "", 0, "this");
        due.is("of another type, and overridden wrongly: the lowest is told", b.x.wrong(), 0);
        Bench c = new Bench(-1, 0);
        c.method(0, "a", "", INT, "a");
        due.is("a VAR of what is not there yet", c.x.wrong(), 0);
        c.x.fieldOf(0, 0, 0);
        due.is("of another type", c.x.wrong(), 0);
        c.method(0, "b", "", INT, "b");
        c.x.fieldOf(0, 1, INT);
        due.is("yet the first", c.x.wrong(), 0);
        Bench d = new Bench(-1);
        d.method(0, "a", "", INT, "1");
        d.method(0, "b", "", INT, "(call c this)");
        due.is("the second", d.x.wrong(), 1);
        d.method(0, "c", "", INT, "2");
        due.is("none any more", d.x.wrong(), RIGHT);
        due.is("begin", d.x.begin(), 3);
    }
}
