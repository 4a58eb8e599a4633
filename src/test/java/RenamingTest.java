/** Promises 18 to 20: names of methods, fields and locals. */
public final class RenamingTest {
    private static final Due due = new Due("renaming");
    private static final int INT = SmithyBench.INT;
    private static final int CLASH = SmithyBench.CLASH, CAPTURE = SmithyBench.CAPTURE, TOO_MANY = SmithyBench.TOO_MANY, NOT_THAT = SmithyBench.NOT_THAT;

    public static void main(String[] arguments) {
        due.part("promise 18", RenamingTest::methods);
        due.part("promise 18, refused", RenamingTest::methodsRefused);
        due.part("promise 19", RenamingTest::fields);
        due.part("promise 19, refused", RenamingTest::fieldsRefused);
        due.part("promise 19, 60 nodes", RenamingTest::fieldsThatAreTooMany);
        due.part("promise 20, LETs", RenamingTest::lets);
        due.part("promise 20, parameters", RenamingTest::parameters);
        due.part("promise 20, refused", RenamingTest::localsRefused);
        due.part("promise 20, captured", RenamingTest::captures);
        due.part("promise 20, 60 nodes", RenamingTest::localsThatAreTooMany);
        due.end();
    }

    /** Classes 1 and 2 below 0, and 3 by itself; a is of a family in 0, 1 and 2, and of another one in 3. */
    private static Bench family() {
        Bench b = new Bench(-1, 0, 0, -1);
        b.method(1, "a", "", INT, "1");
        b.method(2, "a", "", INT, "(call a new1)");
        b.method(0, "a", "", INT, "(+ (call a this) (call a this 1))");
        b.method(0, "a", "a-", INT, "(call a new3)");
        b.method(3, "a", "", INT, "(call a new2)");
        b.method(3, "b", "", INT, "(call a (let a this a))");
        return b;
    }

    private static void methods() {
        Bench b = family();
        due.is("CALLs", b.x.renameMethod(0, 1), 3);
        int[] names = {1, 1, 1, 0, 0, 1};
        for (int m = 0; m < 6; m++) due.is("name of " + m, b.x.tell(m, 1), names[m]);
        due.body(b.x, 1, "(call b new1)");
        due.body(b.x, 2, "(+ (call b this) (call a this 1))");
        due.body(b.x, 3, "(call a new3)");
        due.body(b.x, 4, "(call b new2)");
        due.body(b.x, 5, "(call a (let a this a))");
        due.is("right", b.x.wrong(), -1);
        due.is("with one parameter", b.x.renameMethod(3, 15), 1);
        due.body(b.x, 2, "(+ (call b this) (call p this 1))");
        due.is("not called", b.x.renameMethod(5, 2), 0);
        due.is("undone", b.x.undo(), 2);
        due.is("name", b.x.tell(5, 1), 1);
    }

    private static void methodsRefused() {
        Bench b = new Bench(-1, 0, 0, -1, 1);
        b.method(0, "a", "", INT, "1");
        b.method(1, "a", "", INT, "1");
        b.method(2, "b", "", INT, "1");
        b.method(4, "c", "", INT, "1");
        b.method(0, "d", "a-", INT, "1");
        b.method(3, "e", "", INT, "1");
        b.method(1, "f", "", INT, "1");
        due.is("one akin to 0", b.x.renameMethod(1, 1), CLASH);
        due.is("one below", b.x.renameMethod(1, 2), CLASH);
        due.is("in the class", b.x.renameMethod(0, 5), CLASH);
        due.is("one above", b.x.renameMethod(3, 0), CLASH);
        due.is("in a class that is not akin", b.x.renameMethod(6, 1), 0);
        due.is("of another number of parameters", b.x.renameMethod(0, 3), 0);
        due.is("of a class by itself", b.x.renameMethod(1, 4), 0);
        due.outOfBounds("no method", () -> b.x.renameMethod(7, 16));
        due.outOfBounds("method -1", () -> b.x.renameMethod(-1, 16));
        due.badArgument("name 16", () -> b.x.renameMethod(0, 16));
        due.badArgument("name -1", () -> b.x.renameMethod(0, -1));
        due.badArgument("its own", () -> b.x.renameMethod(0, 4));
        b.method(0, "p", "", INT, "this");
        due.outOfBounds("not right, no method", () -> b.x.renameMethod(9, 3));
        due.badArgument("not right, its own", () -> b.x.renameMethod(0, 4));
        due.badState("not right", () -> b.x.renameMethod(0, 5));
    }

    private static void fields() {
        Bench b = new Bench(-1, 0, -1);
        b.x.fieldOf(0, 0, INT);
        b.x.fieldOf(2, 0, INT);
        b.x.fieldOf(1, 2, 1);
        b.method(0, "a", "a-", INT, "(+ a (field a this))");
        b.method(1, "b", "b-", INT, "(+ a (+ b (put a c (set a (let a 1 a)))))");
        b.method(1, "c", "", INT, "(+ (let b a (+ a (set a 2))) (+ a (field a new2)))");
        b.method(2, "a", "b-", INT, "a");
        due.is("all that is bound to it", b.x.renameField(0, 0, 1), 8);
        due.body(b.x, 0, "(+ a (field b this))");
        due.body(b.x, 1, "(+ (field b this) (+ b (put b c (put b this (let a 1 a)))))");
        due.body(b.x, 2, "(+ (let b b (+ (field b this) (put b this 2))) (+ b (field a new2)))");
        due.body(b.x, 3, "a");
        due.is("right", b.x.wrong(), -1);
        due.is("bound", b.x.node(2, 2, 3), 1000);
        due.outOfBounds("its name of before", () -> b.x.renameField(0, 0, 5));
        due.is("one that is free now", b.x.renameField(1, 2, 0), 1);
        due.is("one that nothing is bound to", b.x.renameField(2, 0, 15), 2);
        due.is("again", b.x.renameField(2, 15, 14), 2);
    }

    private static void fieldsRefused() {
        Bench b = new Bench(-1, 0, 0);
        b.x.fieldOf(0, 0, INT);
        b.x.fieldOf(1, 1, INT);
        b.x.fieldOf(2, 2, INT);
        due.is("below", b.x.renameField(0, 0, 1), CLASH);
        due.is("above", b.x.renameField(1, 1, 0), CLASH);
        due.is("of a class beside", b.x.renameField(1, 1, 2), 0);
        due.outOfBounds("no class", () -> b.x.renameField(3, 16, 16));
        due.outOfBounds("class -1", () -> b.x.renameField(-1, 0, 16));
        due.outOfBounds("no such field", () -> b.x.renameField(0, 5, 16));
        due.outOfBounds("a field above", () -> b.x.renameField(1, 0, 16));
        due.outOfBounds("a field that is no name", () -> b.x.renameField(0, 16, 16));
        due.outOfBounds("field -1", () -> b.x.renameField(0, -1, 16));
        due.badArgument("name 16", () -> b.x.renameField(0, 0, 16));
        due.badArgument("name -1", () -> b.x.renameField(0, 0, -1));
        due.badArgument("its own", () -> b.x.renameField(0, 0, 0));
        b.method(0, "p", "", INT, "this");
        due.outOfBounds("not right, no such field", () -> b.x.renameField(0, 5, 3));
        due.badArgument("not right, its own", () -> b.x.renameField(0, 0, 0));
        due.badState("not right", () -> b.x.renameField(0, 0, 1));
    }

    /** A body of so many nodes: sums of one node that is told. */
    private static int sums(Bench b, int node, int times) {
        int sum = node;
        for (int i = 1; i < times; i++) sum = b.x.two(2, sum, node);
        return sum;
    }

    private static void fieldsThatAreTooMany() {
        Bench b = new Bench(-1);
        b.x.fieldOf(0, 0, INT);
        int v = b.x.var(0);
        // 2 n - 1 nodes with n VARs: 20 are 39, and 59 when all of them are made plain; 21 would be 62.
        b.x.method(0, 0, 1, -1, INT, sums(b, v, 20));
        b.x.method(0, 1, 2, -1, INT, sums(b, v, 21));
        due.is("61 nodes in another body", b.x.renameField(0, 0, 2), TOO_MANY);
        due.is("nothing was done", b.x.tell(0, 6), 39);
        due.badState("nothing can be undone", b.x::undo);
        due.is("59 nodes", b.x.renameField(0, 0, 1), 41);
        due.is("so many", b.x.tell(0, 6), 59);
        due.is("others as before", b.x.tell(1, 6), 41);
    }

    private static void lets() {
        Bench b = new Bench(-1);
        b.x.fieldOf(0, 2, INT);
        b.method(0, "a", "b-", INT, "(let a (+ b c) (let c a a))");
        due.is("the outer one", b.x.renameLocal(0, 0, 3), 2);
        due.body(b.x, 0, "(let d (+ b c) (let c d d))");
        due.is("the inner one", b.x.renameLocal(0, 4, 15), 0);
        due.body(b.x, 0, "(let d (+ b c) (let p d d))");
        b.method(0, "b", "b-", INT, "(+ (let a (+ c 1) (+ (set a (+ c (set c a))) (field c this))) c)");
        due.is("with a field made plain", b.x.renameLocal(1, 1, 2), 2);
        due.body(b.x, 1, "(+ (let c (+ c 1) (+ (set c (+ (field c this) (put c this c))) (field c this))) c)");
        due.is("right", b.x.wrong(), -1);
        due.is("bound", b.x.node(1, 6, 3), 1);
        // A LET of its name within is another local, and so is one of the new name that holds nothing of it.
        b.method(0, "c", "", INT, "(let a 1 (+ (let a a a) (let b 3 b)))");
        due.is("its own alone", b.x.renameLocal(2, 0, 1), 1);
        due.body(b.x, 2, "(let b 1 (+ (let a b a) (let b 3 b)))");
    }

    private static void parameters() {
        Bench b = new Bench(-1, 0);
        b.x.fieldOf(0, 2, INT);
        b.method(0, "a", "a- b-", INT, "(let d (set a b) (+ (+ a c) (let a 1 a)))");
        b.method(1, "a", "a- b-", INT, "(+ a b)");
        due.is("the first", b.x.renameLocal(0, -1, 2), 2);
        due.body(b.x, 0, "(let d (set c b) (+ (+ c (field c this)) (let a 1 a)))");
        due.is("its name", b.x.tell(0, 3), 2);
        due.is("not of the other method", b.x.tell(1, 3), 0);
        due.body(b.x, 1, "(+ a b)");
        due.is("the second", b.x.renameLocal(0, -2, 0), 1);
        due.body(b.x, 0, "(let d (set c a) (+ (+ c (field c this)) (let a 1 a)))");
        due.is("its name", b.x.tell(0, 4), 0);
        due.is("right", b.x.wrong(), -1);
    }

    private static void localsRefused() {
        Bench b = new Bench(-1);
        b.method(0, "a", "a- b-", INT, "(let c a (+ c b))");
        b.method(0, "b", "a-", INT, "a");
        due.is("no LET", b.x.renameLocal(0, 1, 7), NOT_THAT);
        due.is("the root is none", b.x.renameLocal(1, 0, 7), NOT_THAT);
        due.is("the other one's name", b.x.renameLocal(0, -1, 1), CLASH);
        due.is("the other one's name, from the second", b.x.renameLocal(0, -2, 0), CLASH);
        due.outOfBounds("no method", () -> b.x.renameLocal(2, 0, 16));
        due.outOfBounds("method -1", () -> b.x.renameLocal(-1, 0, 16));
        due.outOfBounds("no place", () -> b.x.renameLocal(0, 5, 16));
        due.outOfBounds("no second parameter", () -> b.x.renameLocal(1, -2, 16));
        due.outOfBounds("no third parameter", () -> b.x.renameLocal(0, -3, 16));
        due.outOfBounds("lowest", () -> b.x.renameLocal(0, Integer.MIN_VALUE, 16));
        due.badArgument("name 16", () -> b.x.renameLocal(0, 0, 16));
        due.badArgument("name -1", () -> b.x.renameLocal(0, 0, -1));
        due.badArgument("its own", () -> b.x.renameLocal(0, 0, 2));
        due.badArgument("a parameter's own", () -> b.x.renameLocal(0, -2, 1));
        b.method(0, "p", "", INT, "this");
        due.outOfBounds("not right, no place", () -> b.x.renameLocal(0, 5, 7));
        due.badArgument("not right, its own", () -> b.x.renameLocal(0, 0, 2));
        due.badState("not right", () -> b.x.renameLocal(0, 0, 7));
        due.badState("not right, no LET", () -> b.x.renameLocal(0, 1, 7));
    }

    private static void captures() {
        Bench b = new Bench(-1);
        b.x.fieldOf(0, 15, INT);
        b.method(0, "a", "a-", INT, "(let b 1 (let c 2 (+ (+ a b) c)))");
        due.is("a parameter around", b.x.renameLocal(0, 0, 0), CAPTURE);
        due.is("a LET around", b.x.renameLocal(0, 2, 1), CAPTURE);
        due.is("a LET within", b.x.renameLocal(0, 0, 2), CAPTURE);
        due.is("a parameter around, from within", b.x.renameLocal(0, 2, 0), CAPTURE);
        b.method(0, "b", "a-", INT, "(let b a (let c b (set c c)))");
        due.is("in its v alone", b.x.renameLocal(1, 0, 0), 1);
        due.body(b.x, 1, "(let a a (let c a (set c c)))");
        due.is("in its v alone, of a LET", b.x.renameLocal(1, 2, 0), 2);
        due.body(b.x, 1, "(let a a (let a a (set a a)))");
        due.is("a LET of the new name that holds none", b.x.renameLocal(1, 0, 7), 1);
        b.method(0, "c", "a-", INT, "(let b 1 (set a 2))");
        due.is("a SET within", b.x.renameLocal(2, -1, 1), CAPTURE);
        due.is("a SET of what is around", b.x.renameLocal(2, 0, 0), CAPTURE);
        b.method(0, "d", "a- b-", INT, "(+ (let c 1 c) (let c a (set c 4)))");
        due.is("LETs of the new name that hold none", b.x.renameLocal(3, -1, 2), 1);
        due.body(b.x, 3, "(+ (let c 1 c) (let c c (set c 4)))");
        due.is("a parameter that is not used", b.x.renameLocal(3, -2, 15), 0);
    }

    private static void localsThatAreTooMany() {
        Bench b = new Bench(-1);
        b.x.fieldOf(0, 0, INT);
        int v = b.x.var(0);
        int sum = sums(b, v, 20);
        // 41 nodes with 20 VARs are 61 when these are made plain, and with 19 of them 58.
        b.x.method(0, 0, -1, -1, INT, b.x.let(1, b.x.number(1), sum));
        due.is("61 nodes", b.x.renameLocal(0, 0, 0), TOO_MANY);
        due.is("nothing was done", b.x.node(0, 0, 1), 1);
        b.x.method(0, 1, 1, -1, INT, b.x.two(2, sum, b.x.number(1)));
        due.is("61 nodes, of a parameter", b.x.renameLocal(1, -1, 0), TOO_MANY);
        due.is("its name is as before", b.x.tell(1, 3), 1);
        b.x.method(0, 2, 1, -1, INT, b.x.raise(sum));
        due.is("60 nodes", b.x.renameLocal(2, -1, 0), 0);
        due.is("so many", b.x.tell(2, 6), 60);
    }
}
