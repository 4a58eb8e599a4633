/** Promises 21 to 24: methods put in place of calls and taken out, and parameters. */
public final class MethodsTest {
    private static final Due due = new Due("methods");
    private static final int INT = SmithyBench.INT;
    private static final int CLASH = SmithyBench.CLASH, OVERRIDDEN = SmithyBench.OVERRIDDEN, RECURSIVE = SmithyBench.RECURSIVE;
    private static final int OUTPUT = SmithyBench.OUTPUT, TOO_MANY = SmithyBench.TOO_MANY, EFFECT = SmithyBench.EFFECT;
    private static final int INVISIBLE = SmithyBench.INVISIBLE, USED = SmithyBench.USED, NOT_THAT = SmithyBench.NOT_THAT;

    public static void main(String[] arguments) {
        due.part("promise 21", MethodsTest::inline);
        due.part("promise 21, fresh names", MethodsTest::inlineWithFreshNames);
        due.part("promise 21, refused", MethodsTest::inlineRefused);
        due.part("promise 21, recursive", MethodsTest::inlineRecursive);
        due.part("promise 21, not right", MethodsTest::inlineInvisible);
        due.part("promise 21, too many", MethodsTest::inlineTooMany);
        due.part("promise 22", MethodsTest::extract);
        due.part("promise 22, likes", MethodsTest::extractLikes);
        due.part("promise 22, refused", MethodsTest::extractRefused);
        due.part("promise 22, too many", MethodsTest::extractTooMany);
        due.part("promise 23", MethodsTest::addParameter);
        due.part("promise 23, refused", MethodsTest::addParameterRefused);
        due.part("promise 24", MethodsTest::dropParameter);
        due.part("promise 24, refused", MethodsTest::dropParameterRefused);
        due.part("promise 24, effects", MethodsTest::effects);
        due.end();
    }

    private static void inline() {
        Bench b = new Bench(-1, 0);
        b.x.fieldOf(0, 0, INT);
        b.x.fieldOf(0, 1, INT);
        b.method(0, "f", "", INT, "(+ a 1)");
        b.method(1, "g", "a-", INT, "(+ (call f this) (let b 2 (call f this)))");
        due.is("a parameter around", b.x.inline(1, 1), 9);
        due.body(b.x, 1, "(+ (+ (field a this) 1) (let b 2 (call f this)))");
        due.is("again", b.x.inline(1, 7), 11);
        due.body(b.x, 1, "(+ (+ (field a this) 1) (let b 2 (+ (field a this) 1)))");
        due.is("right", b.x.wrong(), -1);
        b.method(0, "h", "b-", INT, "(set a (let b (set b 3) (+ b a)))");
        b.method(0, "i", "", INT, "(+ (let a 4 (call h this 5)) (call h this 6))");
        due.is("SET, and a LET of the name", b.x.inline(3, 3), 17);
        due.body(b.x, 3, "(+ (let a 4 (let c 5 (put a this (let b (set c 3) (+ b (field a this)))))) (call h this 6))");
        due.is("where no local is around", b.x.inline(3, 14), 23);
        due.body(b.x, 3, "(+ (let a 4 (let c 5 (put a this (let b (set c 3) (+ b (field a this)))))) (let d 6 (set a (let b (set d 3) (+ b a)))))");
        due.is("run", b.x.run(3, 0, 0, 0, false), 0);
        due.is("value", b.x.value(), 3 + 6);
        b.method(1, "j", "", INT, "(let a (call f this) a)");
        due.is("in the v of a LET", b.x.inline(4, 1), 5);
        due.body(b.x, 4, "(let a (+ a 1) a)");
    }

    private static void inlineWithFreshNames() {
        Bench b = new Bench(-1);
        b.x.fieldOf(0, 3, INT);
        b.method(0, "a", "b- c-", INT, "(- (* b c) (field d this))");
        b.method(0, "e", "", INT, "(+ 1 (call a this (+ 2 3) (let f 4 f)))");
        due.is("two parameters", b.x.inline(1, 2), 16);
        // The CALL, parameters, a FIELD and a LET have a to d and f; the name of the method itself is that of no node.
        due.body(b.x, 1, "(+ 1 (let e (+ 2 3) (let g (let f 4 f) (- (* e g) (field d this)))))");
        due.is("nothing else is changed", b.x.tell(0, 6), 6);
        Bench c = new Bench(-1);
        c.method(0, "a", "b-", INT, "7");
        c.method(0, "e", "c- d-", INT, "(call a this c)");
        due.is("one that is not used", c.x.inline(1, 0), 3);
        due.body(c.x, 1, "(let e c 7)");
    }

    private static void inlineRefused() {
        Bench b = new Bench(-1, 0, 1, 0);
        b.method(0, "a", "", INT, "1");
        b.method(2, "a", "", INT, "2");
        b.method(0, "b", "", INT, "(call a this)");
        b.method(1, "c", "", INT, "(call a this)");
        b.method(2, "d", "", INT, "(+ (call a this) (call a new0))");
        b.method(3, "e", "", INT, "(+ (call a this) (let a this (call a a)))");
        due.is("below by two", b.x.inline(2, 0), OVERRIDDEN);
        due.is("below", b.x.inline(3, 0), OVERRIDDEN);
        due.is("in the lowest", b.x.inline(4, 1), 4);
        due.is("of another object", b.x.inline(4, 2), NOT_THAT);
        due.is("a NUMBER", b.x.inline(4, 1), NOT_THAT);
        due.is("THIS", b.x.inline(2, 1), NOT_THAT);
        due.is("where none is below", b.x.inline(5, 1), 6);
        due.is("of a VAR that is THIS", b.x.inline(5, 4), NOT_THAT);
        due.outOfBounds("no method", () -> b.x.inline(6, 0));
        due.outOfBounds("method -1", () -> b.x.inline(-1, 0));
        due.outOfBounds("no place", () -> b.x.inline(2, 2));
        due.outOfBounds("place -1", () -> b.x.inline(2, -1));
        b.method(0, "p", "", INT, "this");
        due.outOfBounds("not right, no place", () -> b.x.inline(2, 2));
        due.badState("not right", () -> b.x.inline(2, 0));
        due.badState("not right, a NUMBER", () -> b.x.inline(0, 0));
        Bench c = new Bench(-1, 0);
        c.method(0, "a", "", INT, "(call a this)");
        c.method(1, "a", "", INT, "(call a this)");
        due.is("ahead of RECURSIVE", c.x.inline(0, 0), OVERRIDDEN);
    }

    private static void inlineRecursive() {
        Bench b = new Bench(-1, 0, 0);
        b.method(0, "a", "", INT, "(call b this)");
        b.method(0, "b", "", INT, "(test 1 2 (call c this))");
        b.method(0, "c", "", INT, "(call b this)");
        due.is("by way of another one", b.x.inline(0, 0), RECURSIVE);
        due.is("itself", b.x.inline(2, 0), RECURSIVE);
        // d leads to e of class 0, which e of class 1 overrides, and that leads back to d.
        b.method(0, "d", "", INT, "(call e new0)");
        b.method(0, "e", "", INT, "1");
        b.method(1, "e", "", INT, "(call d this)");
        b.method(0, "f", "", INT, "(call d this)");
        due.is("by way of one that overrides", b.x.inline(6, 0), RECURSIVE);
        b.method(0, "g", "", INT, "(call e new2)");
        b.method(0, "h", "", INT, "(call g this)");
        due.is("r has a class that is not above", b.x.inline(8, 0), 2);
        due.body(b.x, 8, "(call e new2)");
    }

    private static void inlineInvisible() {
        Bench b = new Bench(-1, 0);
        b.x.fieldOf(0, 0, INT);
        b.method(0, "a", "b0", 0, "(set b new0)");
        b.method(0, "b", "", 0, "(call a this new0)");
        b.method(0, "c", "", 0, "(call a this new1)");
        due.is("the argument has the same class", b.x.inline(1, 0), 4);
        due.is("the argument is below", b.x.inline(2, 0), INVISIBLE);
        b.method(0, "d", "b0", INT, "(field a b)");
        b.method(0, "e", "", INT, "(call d this (raise 3))");
        due.is("the argument is NEVER", b.x.inline(4, 0), INVISIBLE);
        b.method(0, "f", "", 0, "(raise 1)");
        b.method(0, "g", "", INT, "(field a (call f this))");
        b.method(0, "h", "", 0, "(call f this)");
        due.is("what it answers is NEVER", b.x.inline(6, 1), INVISIBLE);
        due.is("and that does not matter", b.x.inline(7, 0), 2);
        due.is("still as it was", b.x.tell(6, 6), 3);
        due.is("right", b.x.wrong(), -1);
    }

    private static int sums(Bench b, int node, int times) {
        int sum = node;
        for (int i = 1; i < times; i++) sum = b.x.two(2, sum, node);
        return sum;
    }

    private static void inlineTooMany() {
        Bench b = new Bench(-1);
        int one = b.x.number(1);
        int call = b.tell("(call a this)");
        int large = sums(b, one, 15);
        b.x.method(0, 0, -1, -1, INT, sums(b, one, 16));
        // The CALL is 2 nodes and comes to 31: 31 and 29 more are 60, and one more is too many.
        b.x.method(0, 1, -1, -1, INT, b.x.two(2, call, b.x.raise(b.tell("(+ 1 2)"))));
        b.x.method(0, 2, -1, -1, INT, b.x.raise(b.x.two(2, large, call)));
        int sixty = b.x.two(2, b.x.raise(sums(b, one, 14)), call);
        b.x.method(0, 3, -1, -1, INT, sixty);
        b.x.method(0, 4, -1, -1, INT, b.x.raise(sixty));
        due.is("61", b.x.tell(4, 6), 32);
        due.is("few", b.x.inline(1, 1), 36);
        due.is("62", b.x.inline(2, 31), TOO_MANY);
        due.is("60", b.x.inline(3, 29), 60);
        due.is("61", b.x.inline(4, 30), TOO_MANY);
        Bench c = new Bench(-1);
        StringBuilder names = new StringBuilder();
        for (int n = 2; n < 15; n++) names.append("(let ").append((char) ('a' + n)).append(" 1 ");
        c.method(0, "a", "a- b-", INT, "1");
        c.method(0, "b", "a-", INT, "a");
        c.method(0, "c", "", INT, names + "(+ (call a this 1 2) (call b this 3))" + ")".repeat(13));
        due.is("no second fresh name", c.x.inline(2, 27), TOO_MANY);
        due.is("the last fresh name", c.x.inline(2, 31), 34);
        due.is("its LET", c.x.node(2, 31, 1), 15);
        due.is("its VAR", c.x.node(2, 33, 1), 15);
        c.method(0, "d", "", INT, names + "(+ (call b this 1) (let p 2 p))" + ")".repeat(13));
        due.is("no first fresh name", c.x.inline(3, 27), TOO_MANY);
    }

    private static void extract() {
        Bench b = new Bench(-1, 0);
        b.x.fieldOf(0, 2, INT);
        b.method(0, "a", "a- b0", INT, "(let d (+ 3 c) (test (< d a) (+ (* d (+ a d)) (field c b)) 5))");
        due.is("two locals", b.x.extract(0, 9, 7), 101);
        due.body(b.x, 0, "(let d (+ 3 c) (test (< d a) (+ (call h this d a) (field c b)) 5))");
        due.body(b.x, 1, "(* d (+ a d))");
        int[] told = {0, 7, 2, 3, 0, INT, 5, 1};
        for (int what = 0; what < 8; what++) due.is("tell " + what, b.x.tell(1, what), told[what]);
        due.is("one of a class", b.x.extract(0, 13, 7), 201);
        due.body(b.x, 2, "(field c b)");
        due.body(b.x, 0, "(let d (+ 3 c) (test (< d a) (+ (call h this d a) (call h this b)) 5))");
        due.is("the parameter is of the class", b.x.node(2, 1, 2), 0);
        due.is("without locals", b.x.extract(0, 1, 7), 301);
        due.body(b.x, 3, "(+ 3 c)");
        due.body(b.x, 0, "(let d (call h this) (test (< d a) (+ (call h this d a) (call h this b)) 5))");
        due.is("the whole body", b.x.extract(0, 0, 8), 401);
        due.body(b.x, 0, "(call i this a b)");
        due.is("right", b.x.wrong(), -1);
        b.method(1, "b", "a-", 1, "(seq (let c 1 (set c a)) this)");
        due.is("a LET within", b.x.extract(5, 1, 9), 601);
        due.body(b.x, 6, "(let c 1 (set c a))");
        due.is("THIS, and the r of a CALL is its like", b.x.extract(5, 4, 10), 702);
        due.is("returns the class", b.x.tell(7, 5), 1);
        due.body(b.x, 5, "(seq (call j (call k this) a) (call k this))");
        // A local that is NEVER is a parameter that is NEVER, which is no number to be run with.
        b.method(0, "c", "", INT, "(let a (raise 1) (+ a 1))");
        due.is("NEVER", b.x.extract(8, 3, 11), 901);
        due.is("its parameter", b.x.node(9, 1, 2), SmithyBench.NEVER);
        due.badArgument("run", () -> b.x.run(9, 0, 1, 0, false));
        due.is("right", b.x.wrong(), -1);
    }

    private static void extractLikes() {
        Bench b = new Bench(-1, 0);
        b.x.fieldOf(0, 5, INT);
        b.x.fieldOf(0, 6, 0);
        b.method(0, "a", "a- b-", INT, "(+ (+ a b) (+ b a))");
        b.method(0, "b", "a- b0", INT, "(let b 2 (let c 3 (+ (+ b c) (+ (+ c c) (+ a 3)))))");
        b.method(1, "c", "a- b-", INT, "(+ a b)");
        b.method(0, "d", "a- b-", INT, "(+ (+ a f) (+ f b))");
        due.is("a and b", b.x.extract(0, 1, 9), 403);
        due.body(b.x, 0, "(+ (call j this a b) (call j this b a))");
        due.body(b.x, 1, "(let b 2 (let c 3 (+ (call j this b c) (+ (+ c c) (+ a 3)))))");
        due.body(b.x, 2, "(+ a b)");
        due.body(b.x, 3, "(+ (+ a f) (+ f b))");
        due.body(b.x, 4, "(+ a b)");
        due.is("twice the same local", b.x.extract(1, 10, 10), 501);
        due.is("a field is the same", b.x.extract(3, 1, 11), 601);
        due.body(b.x, 3, "(+ (call l this a) (+ f b))");
        // Likes have locals of the same types, and are the same in all else; those within others are left out.
        Bench c = new Bench(-1, 0);
        c.x.fieldOf(0, 6, INT);
        c.method(0, "a", "a0", INT, "(field g a)");
        c.method(0, "b", "a1", INT, "(field g a)");
        c.method(0, "c", "b0 a0", INT, "(+ (field g b) (field g new0))");
        due.is("of the same types", c.x.extract(0, 0, 9), 302);
        due.body(c.x, 1, "(field g a)");
        due.body(c.x, 2, "(+ (call j this b) (field g new0))");
        c.method(0, "d", "", INT, "(+ (+ 1 (+ 1 1)) (+ 1 (- 1 1)))");
        c.method(0, "e", "", INT, "(+ (raise 1) (+ 1 1))");
        due.is("in rising methods", c.x.extract(5, 3, 10), 602);
        due.body(c.x, 4, "(+ (+ 1 (call k this)) (+ 1 (- 1 1)))");
        due.body(c.x, 5, "(+ (raise 1) (call k this))");
        due.is("a NUMBER", c.x.extract(4, 2, 11), 707);
        due.body(c.x, 4, "(+ (+ (call l this) (call k this)) (+ (call l this) (- (call l this) (call l this))))");
        due.body(c.x, 5, "(+ (raise (call l this)) (call k this))");
        due.body(c.x, 6, "(+ (call l this) (call l this))");
        due.body(c.x, 7, "1");
        Bench d = new Bench(-1);
        d.method(0, "a", "a-", INT, "(let b (let c 1 (+ a c)) (let c 2 (let d 1 (+ b d))))");
        d.method(0, "b", "a-", INT, "(let b (let c 1 (+ a c)) (let e 7 (let c 1 (+ e c))))");
        d.method(0, "c", "a-", INT, "(let c (set a 4) (let c 1 (+ a a)))");
        due.is("LETs within have the same names", d.x.extract(0, 1, 9), 303);
        due.body(d.x, 0, "(let b (call j this a) (let c 2 (let d 1 (+ b d))))");
        due.body(d.x, 1, "(let b (call j this a) (let e 7 (call j this e)))");
        due.body(d.x, 2, "(let c (set a 4) (let c 1 (+ a a)))");
    }

    private static void extractRefused() {
        Bench b = new Bench(-1, 0, 0);
        b.method(0, "a", "a- b-", INT, "(let c 1 (seq (set c (+ a 1)) (+ (+ a b) (+ c (test 1 (raise 2) c)))))");
        b.method(2, "e", "", INT, "1");
        b.method(1, "f", "a-", INT, "a");
        b.method(1, "g", "", INT, "1");
        due.is("NEVER", b.x.extract(0, 15, 9), NOT_THAT);
        due.is("SET of a local", b.x.extract(0, 3, 9), OUTPUT);
        due.is("SET of a local, ahead of three", b.x.extract(0, 2, 9), OUTPUT);
        due.is("three", b.x.extract(0, 7, 9), TOO_MANY);
        due.is("a name below", b.x.extract(0, 17, 5), CLASH);
        due.is("its own name, with two", b.x.extract(0, 8, 0), CLASH);
        due.is("as many of another name", b.x.extract(0, 8, 4), 401);
        due.is("the name, with another number", b.x.extract(0, 15, 0), 503);
        due.is("a name beside", b.x.extract(3, 0, 4), 601);
        due.is("a name above", b.x.extract(3, 0, 15), 701);
        due.is("a name above, the same", b.x.extract(1, 0, 4), CLASH);
        due.outOfBounds("no method", () -> b.x.extract(8, 0, 16));
        due.outOfBounds("no place", () -> b.x.extract(1, 1, 16));
        due.outOfBounds("place -1", () -> b.x.extract(1, -1, 16));
        due.badArgument("name 16", () -> b.x.extract(1, 0, 16));
        due.badArgument("name -1", () -> b.x.extract(1, 0, -1));
        b.method(2, "p", "", INT, "this");
        due.badArgument("not right, name 16", () -> b.x.extract(1, 0, 16));
        due.badState("not right", () -> b.x.extract(1, 0, 9));
    }

    private static void extractTooMany() {
        Bench b = new Bench(-1, -1);
        int v = b.x.var(0);
        int nineteen = sums(b, v, 19);
        // A VAR of a local comes to 3 nodes, so 19 of them in 18 sums come to 75; one alone stays below.
        b.x.method(0, 0, 0, -1, INT, nineteen);
        b.x.method(0, 1, 0, -1, INT, v);
        due.is("75 nodes in another body", b.x.extract(1, 0, 9), TOO_MANY);
        due.is("nothing was done", b.x.tell(1, 6), 1);
        int one = b.x.number(1);
        b.x.method(1, 0, -1, -1, INT, sums(b, one, 20));
        b.x.method(1, 1, -1, -1, INT, b.x.raise(sums(b, one, 20)));
        // A NUMBER comes to 2 nodes: 20 of them in 19 sums are 59, and with a RAISE around 60.
        due.is("60 nodes", b.x.extract(3, 20, 9), 440);
        due.is("so many", b.x.tell(3, 6), 60);
        due.is("as many as before, and 20", b.x.tell(2, 6), 59);
        for (int m = 5; m < 21; m++) b.x.method(0, m - 5, -1, -1, INT, one);
        for (int m = 21; m < 24; m++) b.x.method(1, m - 21, 0, -1, INT, one);
        due.is("a 25th", b.x.extract(2, 0, 8), TOO_MANY);
        due.is("a 25th, with a name that is there", b.x.extract(2, 0, 9), CLASH);
        due.is("24", b.x.begin(), 24);
        b.x.removeDead(0);
        due.is("numbers are not given again", b.x.extract(0, 0, 8), TOO_MANY);
    }

    private static void addParameter() {
        Bench b = new Bench(-1, 0, 0, -1);
        b.x.fieldOf(0, 1, INT);
        b.method(0, "a", "", INT, "b");
        b.method(1, "a", "", INT, "(call a new2)");
        b.method(2, "a", "", INT, "(let c 1 (+ (field b this) c))");
        b.method(3, "a", "", INT, "2");
        b.method(3, "b", "a-", INT, "(+ (call a new0) (call a this))");
        due.is("CALLs", b.x.addParameter(1, -7), 2);
        due.body(b.x, 1, "(call a new2 -7)");
        due.body(b.x, 4, "(+ (call a new0 -7) (call a this))");
        int[] names = {0, 1, 0};
        for (int m = 0; m < 3; m++) {
            due.is("parameters of " + m, b.x.tell(m, 2), 1);
            due.is("name of " + m, b.x.tell(m, 3), names[m]);
        }
        due.is("not of others", b.x.tell(3, 2), 0);
        due.is("a second one", b.x.addParameter(0, Integer.MAX_VALUE), 2);
        due.body(b.x, 4, "(+ (call a new0 -7 2147483647) (call a this))");
        due.is("the first one's name", b.x.tell(0, 3), 0);
        due.is("the second one's name", b.x.tell(0, 4), 2);
        due.is("the second one's name, of 1", b.x.tell(1, 4), 2);
        due.is("the second one's name, of 2", b.x.tell(2, 4), 3);
        due.is("right", b.x.wrong(), -1);
        due.is("it is an INT", b.x.run(2, 2, 1, 2, false), 0);
        Bench c = new Bench(-1);
        c.method(0, "a", "a-", INT, "(call a this (call a this (call a this a)))");
        due.is("within one another", c.x.addParameter(0, 5), 3);
        due.body(c.x, 0, "(call a this (call a this (call a this a 5) 5) 5)");
        due.is("b", c.x.tell(0, 4), 1);
    }

    private static void addParameterRefused() {
        Bench b = new Bench(-1, 0, 0);
        b.method(0, "a", "a- b-", INT, "1");
        b.method(0, "b", "a-", INT, "1");
        b.method(2, "b", "a- b-", INT, "1");
        b.method(1, "c", "", INT, "1");
        b.method(2, "c", "a-", INT, "1");
        due.is("two", b.x.addParameter(0, 1), TOO_MANY);
        due.is("one below", b.x.addParameter(1, 1), CLASH);
        due.is("one beside", b.x.addParameter(3, 1), 0);
        due.outOfBounds("no method", () -> b.x.addParameter(5, 1));
        due.outOfBounds("method -1", () -> b.x.addParameter(-1, 1));
        b.method(2, "p", "", INT, "this");
        due.outOfBounds("not right, no method", () -> b.x.addParameter(6, 1));
        due.badState("not right", () -> b.x.addParameter(0, 1));
        Bench c = new Bench(-1, 0);
        StringBuilder names = new StringBuilder();
        for (int n = 0; n < 16; n++) names.append("(let ").append((char) ('a' + n)).append(" 1 ");
        c.method(0, "a", "", INT, "1");
        c.method(1, "a", "", INT, names + "1" + ")".repeat(16));
        due.is("no fresh name in one that overrides", c.x.addParameter(0, 1), TOO_MANY);
        due.is("nothing was done", c.x.tell(0, 2), 0);
        Bench d = new Bench(-1);
        d.method(0, "a", "", INT, "1");
        int call = d.tell("(call a this)");
        d.x.method(0, 1, -1, -1, INT, d.x.raise(sums(d, call, 15)));
        due.is("45 nodes, and 15 more", d.x.addParameter(0, 3), 15);
        due.is("so many", d.x.tell(1, 6), 60);
        d.x.method(0, 2, -1, -1, INT, call);
        due.badState("a CALL of none", () -> d.x.addParameter(0, 3));
        Bench e = new Bench(-1);
        e.method(0, "a", "", INT, "1");
        call = e.tell("(call a this)");
        e.x.method(0, 1, -1, -1, INT, e.x.raise(e.x.raise(sums(e, call, 15))));
        due.is("46 nodes, and 15 more", e.x.addParameter(0, 3), TOO_MANY);
    }

    private static void dropParameter() {
        Bench b = new Bench(-1, 0, -1);
        b.x.fieldOf(0, 0, INT);
        b.method(0, "a", "a- b-", INT, "(+ b (let a 1 a))");
        b.method(1, "a", "c- d-", INT, "(+ (field a this) (call a new1 (+ a 1) (call a this d 2)))");
        b.method(2, "a", "c- d-", INT, "(call a new0 3 4)");
        b.method(2, "b", "c-", INT, "(call a this 3 4)");
        due.is("the first", b.x.dropParameter(0, 0), 3);
        due.body(b.x, 0, "(+ b (let a 1 a))");
        due.body(b.x, 1, "(+ (field a this) (call a new1 (call a this 2)))");
        due.body(b.x, 2, "(call a new0 4)");
        due.body(b.x, 3, "(call a this 3 4)");
        due.is("one is left", b.x.tell(0, 2), 1);
        due.is("its name", b.x.tell(0, 3), 1);
        due.is("its name, of 1", b.x.tell(1, 3), 3);
        due.is("no second one", b.x.tell(0, 4), -1);
        due.is("the second", b.x.dropParameter(2, 1), 1);
        due.body(b.x, 3, "(call a this 3)");
        due.is("the first is left", b.x.tell(2, 3), 2);
        due.is("the last", b.x.dropParameter(2, 0), 1);
        due.body(b.x, 3, "(call a this)");
        due.is("none is left", b.x.tell(2, 3), -1);
        due.is("right", b.x.wrong(), -1);
        b.method(0, "e", "a0 b-", INT, "b");
        due.is("of another type", b.x.dropParameter(4, 0), 0);
        due.is("the second one's type is left", b.x.run(4, 0, 6, 0, false), 0);
        due.is("value", b.x.value(), 6);
    }

    private static void dropParameterRefused() {
        Bench b = new Bench(-1, 0, 0);
        b.method(0, "a", "a- b-", INT, "1");
        b.method(1, "a", "a- b-", INT, "(set a 2)");
        b.method(2, "a", "a-", INT, "3");
        b.method(0, "b", "a-", INT, "(call a this a 1)");
        b.method(0, "c", "a-", INT, "(call b this (set a 2))");
        b.method(1, "b", "", INT, "1");
        due.is("used by a SET", b.x.dropParameter(0, 0), USED);
        due.is("as many below", b.x.dropParameter(0, 1), CLASH);
        due.is("used, ahead of CLASH", b.x.dropParameter(3, 0), USED);
        due.outOfBounds("no method", () -> b.x.dropParameter(6, 0));
        due.outOfBounds("method -1", () -> b.x.dropParameter(-1, 0));
        due.outOfBounds("no second", () -> b.x.dropParameter(3, 1));
        due.outOfBounds("no first", () -> b.x.dropParameter(5, 0));
        due.outOfBounds("parameter -1", () -> b.x.dropParameter(0, -1));
        due.outOfBounds("parameter 2", () -> b.x.dropParameter(0, 2));
        b.method(2, "p", "", INT, "this");
        due.outOfBounds("not right, no second", () -> b.x.dropParameter(3, 1));
        due.badState("not right", () -> b.x.dropParameter(3, 0));
        Bench c = new Bench(-1);
        c.method(0, "a", "a-", INT, "1");
        c.method(0, "a", "", INT, "(call a this (raise 1))");
        due.is("ahead of EFFECT", c.x.dropParameter(0, 0), CLASH);
    }

    /** What dropping answers if a CALL has this argument. */
    private static int dropOf(String argument) {
        Bench b = new Bench(-1);
        b.x.fieldOf(0, 0, INT);
        b.x.fieldOf(0, 1, 0);
        b.method(0, "a", "a-", INT, "1");
        b.method(0, "b", "a0", INT, "1");
        b.method(0, "c", "c-", INT, "(call a this " + argument + ")");
        return b.x.dropParameter(0, 0);
    }

    private static void effects() {
        for (String plain : new String[] {"1", "c", "a", "(field a this)", "(+ 1 (- a (field a this)))", "(< (* 1 2) 3)"}) due.is(plain, dropOf(plain), 1);
        String[] others = {
            "(raise 1)", "(set c 1)", "(put a this 1)", "(field a b)", "(field a (field b this))", "(let d 1 d)", "(seq 1 2)", "(test 1 2 3)",
            "(guard 1 2)", "(call b this b)", "(field a new0)", "(+ 1 (seq 1 2))", "(+ (seq 1 2) 1)"};
        for (String other : others) due.is(other, dropOf(other), EFFECT);
        Bench b = new Bench(-1);
        b.method(0, "a", "a0 b0", INT, "1");
        b.method(0, "b", "", INT, "(call a this new0 this)");
        due.is("MAKE", b.x.dropParameter(0, 0), EFFECT);
        due.is("THIS", b.x.dropParameter(0, 1), 1);
        due.body(b.x, 1, "(call a this new0)");
    }
}
