/** Promises 25 to 29: methods moved between classes, fields behind methods, what nothing reaches, and undoing. */
public final class MovingTest {
    private static final Due due = new Due("moving");
    private static final int INT = SmithyBench.INT;
    private static final int CLASH = SmithyBench.CLASH, TOO_MANY = SmithyBench.TOO_MANY, INVISIBLE = SmithyBench.INVISIBLE;
    private static final int USED = SmithyBench.USED, NOT_THAT = SmithyBench.NOT_THAT, CHANGES = SmithyBench.CHANGES;

    public static void main(String[] arguments) {
        due.part("promise 25", MovingTest::pullUp);
        due.part("promise 25, refused", MovingTest::pullUpRefused);
        due.part("promise 26", MovingTest::pushDown);
        due.part("promise 26, gone", MovingTest::pushDownAll);
        due.part("promise 26, refused", MovingTest::pushDownRefused);
        due.part("promise 26, too many", MovingTest::pushDownTooMany);
        due.part("promise 27", MovingTest::enclose);
        due.part("promise 27, refused", MovingTest::encloseRefused);
        due.part("promise 28", MovingTest::removeDead);
        due.part("promise 28, refused", MovingTest::removeDeadRefused);
        due.part("promise 29", MovingTest::undo);
        due.part("promise 29, what keeps it", MovingTest::undoIsKept);
        due.part("promise 29, refused changes", MovingTest::refusedChangesAreNone);
        due.end();
    }

    private static void pullUp() {
        Bench b = new Bench(-1, 0, 1, 0);
        b.x.fieldOf(0, 0, INT);
        b.method(2, "a", "b-", INT, "(+ a (+ b (call c this)))");
        b.method(0, "c", "", INT, "1");
        b.method(1, "c", "", INT, "2");
        b.method(3, "a", "c-", INT, "5");
        b.method(0, "d", "", INT, "(call a new2 7)");
        due.is("its class", b.x.pullUp(0), 1);
        due.is("told", b.x.tell(0, 0), 1);
        due.is("bound", b.x.node(0, 4, 3), 2002);
        due.is("the top", b.x.pullUp(0), 0);
        due.is("bound above", b.x.node(0, 4, 3), 2001);
        due.is("one family with that beside", b.x.tell(0, 7), 2);
        due.is("run", b.x.run(4, 0, 0, 0, false), 0);
        due.is("value", b.x.value(), 9);
        due.is("no parent", b.x.pullUp(0), NOT_THAT);
        due.is("undone", b.x.undo(), 1);
        due.is("class", b.x.tell(0, 0), 1);
    }

    private static void pullUpRefused() {
        Bench b = new Bench(-1, 0, 1, 0);
        b.x.fieldOf(2, 0, INT);
        b.method(0, "a", "", INT, "1");
        b.method(1, "a", "", INT, "(call c this)");
        b.method(2, "a", "", INT, "3");
        b.method(2, "b", "", INT, "a");
        b.method(1, "c", "", INT, "1");
        b.method(2, "a", "a-", INT, "(call c this)");
        b.method(3, "a", "a- b-", INT, "3");
        b.method(2, "d", "", 2, "this");
        b.method(2, "e", "b0", INT, "3");
        b.method(3, "e", "b-", INT, "3");
        due.is("the parent has one", b.x.pullUp(1), CLASH);
        due.is("the parent has one, and one above", b.x.pullUp(2), CLASH);
        due.is("a field is left below", b.x.pullUp(3), INVISIBLE);
        due.is("as the name with another number", b.x.pullUp(5), 1);
        due.is("a method is left below", b.x.pullUp(5), INVISIBLE);
        due.is("of a class by itself", b.x.pullUp(6), 0);
        due.is("THIS is below", b.x.pullUp(7), INVISIBLE);
        due.is("one above", b.x.pullUp(8), 1);
        due.is("one beside overrides it wrongly", b.x.pullUp(8), INVISIBLE);
        due.is("its class", b.x.tell(8, 0), 1);
        due.outOfBounds("no method", () -> b.x.pullUp(10));
        due.outOfBounds("method -1", () -> b.x.pullUp(-1));
        Bench c = new Bench(-1, 0, 1, 2);
        c.x.fieldOf(3, 0, INT);
        c.method(0, "a", "", INT, "1");
        c.method(3, "a", "", INT, "a");
        due.is("one above the parent, by two", c.x.pullUp(1), CHANGES);
        due.is("without a parent", c.x.pullUp(0), NOT_THAT);
        c.method(0, "p", "", INT, "this");
        due.outOfBounds("not right, no method", () -> c.x.pullUp(3));
        due.badState("not right", () -> c.x.pullUp(1));
    }

    private static void pushDown() {
        Bench b = new Bench(-1, 0, 1, 0, 1, 0);
        b.x.fieldOf(0, 0, INT);
        b.method(0, "a", "b- c-", INT, "(let d this (+ (set a b) c))");
        b.method(3, "a", "c- b-", INT, "1");
        b.method(5, "b", "", INT, "(+ (call a this 1 2) (+ (call a new2 3 4) (call a new4 5 6)))");
        due.is("all but the one that has it", b.x.pushDown(0), 2);
        int[][] told = {{1, 0, 2, 1, 2, INT, 6, 1}, {3, 0, 2, 2, 1, INT, 1, 1}, {5, 1, 0, -1, -1, INT, 14, 1}, {5, 0, 2, 1, 2, INT, 6, 1}};
        for (int m = 0; m < 4; m++) for (int what = 0; what < 8; what++) due.is("tell " + m + " " + what, b.x.tell(m, what), told[m][what]);
        due.body(b.x, 0, "(let d this (+ (set a b) c))");
        due.body(b.x, 3, "(let d this (+ (set a b) c))");
        due.is("THIS is lower", b.x.node(0, 1, 2), 1);
        due.is("THIS of the copy", b.x.node(3, 1, 2), 5);
        due.is("bound", b.x.node(2, 1, 3), 2003);
        due.is("bound, too", b.x.node(2, 6, 3), 2000);
        due.is("run", b.x.run(2, 5, 0, 0, false), 0);
        due.is("value", b.x.value(), 3 + 7 + 11);
        due.is("again", b.x.pushDown(0), 2);
        due.is("class", b.x.tell(0, 0), 2);
        due.is("copy", b.x.tell(4, 0), 4);
    }

    private static void pushDownAll() {
        Bench b = new Bench(-1, 0, 0);
        b.method(0, "a", "", INT, "1");
        b.method(1, "a", "", INT, "2");
        b.method(2, "a", "", INT, "3");
        due.is("none gets it", b.x.pushDown(0), 0);
        due.outOfBounds("it is gone", () -> b.x.tell(0, 0));
        due.outOfBounds("it is gone", () -> b.x.run(0, 1, 0, 0, false));
        due.is("others are not", b.x.tell(1, 0), 1);
        due.is("one of its name", b.method(0, "a", "", INT, "4"), 3);
        due.is("begin", b.x.begin(), 3);
    }

    private static void pushDownRefused() {
        Bench b = new Bench(-1, 0, 1);
        b.method(1, "a", "", INT, "1");
        b.method(2, "b", "", INT, "(call a this)");
        due.is("none below", b.x.pushDown(1), NOT_THAT);
        due.is("called in a class below", b.x.pushDown(0), 1);
        b.x.undo();
        b.method(1, "c", "", INT, "(call a this)");
        due.is("called in its class", b.x.pushDown(0), USED);
        due.is("the one that calls", b.x.pushDown(2), 1);
        due.is("not called there any more", b.x.pushDown(0), 1);
        b.method(1, "d", "", INT, "1");
        b.method(0, "e", "", 0, "new1");
        due.is("its class is made", b.x.pushDown(3), USED);
        due.is("another class is", b.x.pushDown(4), 1);
        due.outOfBounds("no method", () -> b.x.pushDown(5));
        due.outOfBounds("method -1", () -> b.x.pushDown(-1));
        Bench c = new Bench(-1, 0, 1, 2);
        c.x.fieldOf(0, 0, 1);
        c.method(0, "a", "", INT, "1");
        c.method(2, "a", "", INT, "2");
        c.method(1, "a", "a-", INT, "2");
        c.method(2, "b", "", INT, "(let b this (seq (set b new3) 1))");
        due.is("one above, by two", c.x.pushDown(1), CHANGES);
        due.is("with another number", c.x.pushDown(2), 1);
        due.is("what THIS is bound to", c.x.pushDown(3), 1);
        Bench d = new Bench(-1, 0, 1, 1);
        d.x.fieldOf(0, 0, 1);
        d.method(1, "b", "", INT, "(let b this (seq (set b a) 1))");
        due.is("the field's class is above", d.x.pushDown(0), INVISIBLE);
        due.is("its class", d.x.tell(0, 0), 1);
        d.method(0, "p", "", INT, "this");
        due.outOfBounds("not right, no method", () -> d.x.pushDown(3));
        due.badState("not right", () -> d.x.pushDown(0));
    }

    private static void pushDownTooMany() {
        Bench b = new Bench(-1, 0, 0, 0);
        b.x.fieldOf(0, 15, 0);
        b.method(0, "a", "", INT, "1");
        b.method(0, "b", "", INT, "(let b this (seq (set b p) 1))");
        int one = b.x.number(1);
        for (int m = 2; m < 22; m++) b.x.method(1 + m % 3, m / 3 + 2, -1, -1, INT, one);
        due.is("24", b.x.pushDown(0), 3);
        due.is("the last", b.x.tell(23, 0), 3);
        due.is("26, ahead of INVISIBLE", b.x.pushDown(1), TOO_MANY);
        due.is("undone", b.x.undo(), 0);
        due.is("24, yet not right", b.x.pushDown(1), INVISIBLE);
        Bench c = new Bench(-1, 0, 0);
        c.method(0, "a", "", INT, "1");
        c.method(0, "b", "", INT, "1");
        c.method(1, "a", "", INT, "1");
        c.method(1, "b", "", INT, "1");
        c.method(2, "b", "", INT, "1");
        for (int m = 5; m < 24; m++) c.x.method(m % 2 + 1, m / 2, -1, -1, INT, c.x.number(m));
        due.is("one, without a copy", c.x.pushDown(0), 1);
        due.is("none", c.x.pushDown(1), 0);
        due.is("numbers are not given again", c.x.enclose(c.x.fieldOf(0, 0, INT) - 1, 0, 14, 15), TOO_MANY);
    }

    private static void enclose() {
        Bench b = new Bench(-1, 0, -1);
        b.x.fieldOf(0, 0, 1);
        b.x.fieldOf(0, 1, INT);
        b.x.fieldOf(2, 0, INT);
        b.method(1, "c", "b1", 1, "(put a b (field a (field a (put a this a))))");
        b.method(1, "d", "", INT, "(+ (field a new2) (+ (field b new0) (put b this (field b this))))");
        due.is("FIELDs and PUTs", b.x.enclose(0, 0, 5, 5), 3);
        due.body(b.x, 0, "(call f b (call f (call f (put a this a))))");
        due.body(b.x, 1, "(+ (field a new2) (+ (field b new0) (put b this (field b this))))");
        int[][] told = {{0, 5, 0, -1, -1, 1, 1, 1}, {0, 5, 1, 1, -1, 1, 2, 1}};
        for (int m = 0; m < 2; m++) for (int what = 0; what < 8; what++) due.is("tell " + m + " " + what, b.x.tell(m + 2, what), told[m][what]);
        due.body(b.x, 2, "a");
        due.body(b.x, 3, "(set a b)");
        due.is("right", b.x.wrong(), -1);
        due.is("the parameter is of its type", b.x.node(3, 1, 2), 1);
        due.is("another one", b.x.enclose(0, 1, 4, 6), 1);
        due.body(b.x, 1, "(+ (field a new2) (+ (call e new0) (put b this (field b this))))");
        due.body(b.x, 5, "(set b a)");
        due.is("the parameter", b.x.tell(5, 3), 0);
        due.is("that beside", b.x.enclose(2, 0, 3, 3), 1);
        due.body(b.x, 1, "(+ (call d new2) (+ (call e new0) (put b this (field b this))))");
    }

    private static void encloseRefused() {
        Bench b = new Bench(-1, 0, 1, 0);
        b.x.fieldOf(1, 0, INT);
        b.x.fieldOf(3, 1, INT);
        b.method(0, "a", "", INT, "1");
        b.method(2, "b", "a-", INT, "1");
        b.method(3, "c", "", INT, "1");
        b.method(1, "d", "a-", INT, "1");
        due.is("above", b.x.enclose(1, 0, 0, 9), CLASH);
        due.is("below", b.x.enclose(1, 0, 9, 1), CLASH);
        due.is("in the class", b.x.enclose(1, 0, 9, 3), CLASH);
        due.is("beside, and with other numbers", b.x.enclose(1, 0, 2, 0), 0);
        due.is("its own", b.x.enclose(1, 0, 2, 9), CLASH);
        due.outOfBounds("no class", () -> b.x.enclose(4, 0, 16, 9));
        due.outOfBounds("class -1", () -> b.x.enclose(-1, 0, 16, 9));
        due.outOfBounds("no field", () -> b.x.enclose(1, 1, 16, 9));
        due.outOfBounds("a field above", () -> b.x.enclose(2, 0, 16, 9));
        due.outOfBounds("field 16", () -> b.x.enclose(1, 16, 16, 9));
        due.outOfBounds("field -1", () -> b.x.enclose(1, -1, 16, 9));
        due.badArgument("getter 16", () -> b.x.enclose(1, 0, 16, 9));
        due.badArgument("getter -1", () -> b.x.enclose(1, 0, -1, 9));
        due.badArgument("setter 16", () -> b.x.enclose(1, 0, 9, 16));
        due.badArgument("setter -1", () -> b.x.enclose(1, 0, 9, -1));
        b.method(0, "p", "", INT, "this");
        due.badArgument("not right, setter -1", () -> b.x.enclose(1, 0, 9, -1));
        due.badState("not right", () -> b.x.enclose(1, 0, 9, 9));
        Bench c = new Bench(-1, -1);
        c.x.fieldOf(0, 0, INT);
        int one = c.x.number(1);
        for (int m = 0; m < 16; m++) c.x.method(1, m, -1, -1, INT, one);
        for (int m = 16; m < 22; m++) c.x.method(1, m - 16, 1, -1, INT, one);
        due.is("24", c.x.enclose(0, 0, 1, 1), 0);
        due.is("a name that is there, ahead of 26", c.x.enclose(0, 0, 1, 2), CLASH);
        due.is("26", c.x.enclose(0, 0, 2, 2), TOO_MANY);
        due.is("undone", c.x.undo(), 0);
        c.x.method(1, 7, 1, -1, INT, one);
        due.is("25", c.x.enclose(0, 0, 1, 1), TOO_MANY);
    }

    private static void removeDead() {
        Bench b = new Bench(-1, 0, 1, 0);
        b.method(0, "a", "", INT, "(+ (call b new1) (call c this))");
        b.method(0, "b", "", INT, "1");
        b.method(1, "b", "", INT, "2");
        b.method(2, "b", "", INT, "(call d new0)");
        b.method(3, "b", "", INT, "4");
        b.method(0, "c", "", INT, "5");
        b.method(3, "c", "", INT, "(call e this)");
        b.method(0, "d", "", INT, "7");
        b.method(0, "e", "", INT, "8");
        b.method(0, "f", "", INT, "(call a this)");
        b.method(0, "b", "a-", INT, "1");
        // b is bound to that of class 1, which that of class 2 overrides; that of class 3 is not below.
        due.is("b of 0 and 3, f, and b with one", b.x.removeDead(0), 4);
        boolean[] isGone = {false, true, false, false, true, false, false, false, false, true, true};
        for (int m = 0; m < isGone.length; m++) {
            int method = m;
            if (isGone[m]) due.outOfBounds("tell " + m, () -> b.x.tell(method, 0));
            else due.is("tell " + m, b.x.tell(m, 6) > 0 ? 1 : 0, 1);
        }
        due.is("right", b.x.wrong(), -1);
        due.is("families", b.x.tell(2, 7), 2);
        due.is("numbers are not given again", b.method(0, "f", "", INT, "1"), 11);
        due.is("all but the last", b.x.removeDead(11), 7);
        due.is("itself is left", b.x.begin(), 1);
        due.is("nothing more is dead", b.x.removeDead(11), 0);
        due.is("and that was a change", b.x.undo(), 0);
        Bench c = new Bench(-1, 0);
        c.method(0, "a", "", INT, "(call b this)");
        c.method(1, "b", "", INT, "1");
        c.method(0, "b", "", INT, "1");
        c.method(1, "a", "", INT, "2");
        due.is("one that overrides itself is not reached", c.x.removeDead(0), 1);
        due.outOfBounds("it is gone", () -> c.x.tell(3, 0));
        due.is("one that overrides a reached one is", c.x.tell(1, 0), 1);
    }

    private static void removeDeadRefused() {
        Bench b = new Bench(-1);
        due.outOfBounds("none", () -> b.x.removeDead(0));
        b.method(0, "a", "", INT, "this");
        due.outOfBounds("method 1", () -> b.x.removeDead(1));
        due.outOfBounds("method -1", () -> b.x.removeDead(-1));
        due.badState("not right", () -> b.x.removeDead(0));
        due.badState("nothing was done", b.x::undo);
    }

    private static void undo() {
        Bench b = new Bench(-1);
        b.method(0, "a", "a-", INT, "(let b 1 b)");
        b.method(0, "b", "a-", INT, "2");
        due.badState("none was done", b.x::undo);
        for (int i = 0; i < 12; i++) due.is("rename " + i, b.x.renameMethod(0, 2 + i), 0);
        for (int i = 9; i >= 0; i--) {
            due.is("undo", b.x.undo(), i);
            due.is("the name of before", b.x.tell(0, 1), 3 + i);
        }
        due.badState("only 10", b.x::undo);
        due.is("the name", b.x.tell(0, 1), 3);
        due.is("a change", b.x.removeDead(0), 1);
        due.is("extract", b.x.extract(0, 1, 9), 201);
        due.is("can be undone", b.x.undo(), 1);
        due.outOfBounds("it is not there", () -> b.x.tell(2, 0));
        due.is("and its number is given again", b.x.extract(0, 1, 8), 201);
        due.is("another change", b.x.renameLocal(0, -1, 7), 0);
        due.is("undone", b.x.undo(), 2);
        due.is("the name of the parameter", b.x.tell(0, 3), 0);
        due.is("undone", b.x.undo(), 1);
        due.body(b.x, 0, "(let b 1 b)");
        due.is("undone", b.x.undo(), 0);
        due.is("what was gone is there", b.x.tell(1, 6), 1);
        due.is("run", b.x.run(1, 0, 0, 0, false), 0);
        due.is("value", b.x.value(), 2);
        due.badState("none is left", b.x::undo);
        due.is("its number goes on", b.x.extract(0, 1, 8), 201);
    }

    private static void undoIsKept() {
        Bench b = new Bench(-1);
        b.x.fieldOf(0, 0, INT);
        b.method(0, "a", "a-", INT, "1");
        b.x.renameMethod(0, 1);
        b.x.number(1);
        due.is("nodes do not keep it", b.x.undo(), 0);
        b.x.renameMethod(0, 1);
        b.x.classOf(0);
        due.badState("a class does", b.x::undo);
        b.x.renameMethod(0, 2);
        due.is("a later change can be", b.x.undo(), 0);
        b.x.renameMethod(0, 2);
        b.x.fieldOf(0, 1, INT);
        due.badState("a field does", b.x::undo);
        b.x.renameMethod(0, 3);
        b.method(0, "a", "a-", INT, "1");
        due.badState("a method does", b.x::undo);
        b.x.renameMethod(0, 4);
        b.x.begin();
        due.badState("beginning does", b.x::undo);
        b.x.renameMethod(0, 5);
        due.outOfBounds("no parent", () -> b.x.classOf(7));
        due.badState("such a field", () -> b.x.fieldOf(0, 1, INT));
        due.badState("such a method", () -> b.method(0, "a", "a-", INT, "1"));
        due.is("what is refused does not", b.x.undo(), 0);
        due.is("the name", b.x.tell(0, 1), 4);
        b.x.renameField(0, 0, 7);
        due.is("undo", b.x.undo(), 0);
        due.badState("the field has its name again", () -> b.x.fieldOf(0, 0, INT));
        due.is("and the other name is free", b.x.fieldOf(0, 7, INT), 3);
        Bench c = new Bench(-1);
        c.method(0, "a", "a-", INT, "(+ a 1)");
        c.x.begin();
        due.is("extract", c.x.extract(0, 2, 5), 101);
        due.is("a body", c.x.tell(0, 6), 4);
        due.is("that of the beginning is not changed", c.x.run(0, 0, 4, 0, true), 0);
        due.is("steps", c.x.steps(), 3);
        c.x.undo();
        due.is("nor undone", c.x.run(0, 0, 4, 0, true), 0);
    }

    private static void refusedChangesAreNone() {
        Bench b = new Bench(-1);
        b.method(0, "a", "a-", INT, "(+ a 1)");
        b.method(0, "b", "a-", INT, "a");
        b.x.renameMethod(1, 2);
        due.is("CLASH", b.x.renameMethod(0, 2), CLASH);
        due.is("NOT_THAT", b.x.pullUp(0), NOT_THAT);
        due.is("USED", b.x.dropParameter(0, 0), USED);
        due.badArgument("its own", () -> b.x.renameMethod(0, 0));
        due.is("one change", b.x.undo(), 0);
        due.is("the name", b.x.tell(1, 1), 1);
    }
}
