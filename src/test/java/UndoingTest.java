/** Promises 17 and 29: what is undone, how many changes can be, and what keeps them from it. */
public final class UndoingTest {
    record Change(String name, Later.Call call) { }

    private static final Due due = new Due("undoing");
    private static final Refusals calls = new Refusals(due);
    private static final int INT = SmithyBench.INT;

    public static void main(String[] arguments) {
        due.part("each change", UndoingTest::eachChange);
        due.part("two changes", UndoingTest::twoChanges);
        due.part("10 changes", UndoingTest::tenChanges);
        due.part("11 changes, and more", UndoingTest::moreThanTen);
        due.part("undone and done again", UndoingTest::doneAgain);
        due.part("what is told later", UndoingTest::toldLater);
        due.part("what is not told later", UndoingTest::notToldLater);
        due.part("what is refused", UndoingTest::refused);
        due.part("beginning", UndoingTest::beginning);
        due.end();
    }

    /** A program on which each change can be done: 2 and 3 below 1, 1 below 0. */
    private static Bench bench() {
        Bench b = new Bench(-1, 0, 1, 1);
        b.x.fieldOf(0, 4, INT);
        b.method(0, "a", "a- b-", INT, "(let c (+ a b) (+ c e))");
        b.method(0, "b", "d-", INT, "(+ (call a this d 2) (field e new2))");
        b.method(1, "c", "", INT, "(call b this 3)");
        b.method(0, "d", "a-", INT, "e");
        b.method(2, "d", "b-", INT, "5");
        b.method(1, "e", "", INT, "6");
        return b;
    }

    private static final Change[] CHANGES = {
        new Change("renameMethod", x -> x.renameMethod(0, 9)),
        new Change("renameField", x -> x.renameField(0, 4, 2)),
        new Change("renameLocal, a LET", x -> x.renameLocal(0, 0, 4)),
        new Change("renameLocal, a parameter", x -> x.renameLocal(0, -1, 4)),
        new Change("inline", x -> x.inline(2, 0)),
        new Change("extract", x -> x.extract(0, 1, 9)),
        new Change("addParameter", x -> x.addParameter(3, 7)),
        new Change("dropParameter", x -> x.dropParameter(4, 0)),
        new Change("pullUp", x -> x.pullUp(5)),
        new Change("pushDown", x -> x.pushDown(2)),
        new Change("enclose", x -> x.enclose(0, 4, 9, 10)),
        new Change("removeDead", x -> x.removeDead(2))};

    private static SmithyBench behind(Change... changes) {
        SmithyBench x = bench().x;
        for (Change c : changes) Later.answer(x, c.call());
        return x;
    }

    private static final Change UNDO = new Change("undo", SmithyBench::undo);

    private static void eachChange() {
        for (Change c : CHANGES) {
            due.is(c.name() + " is done", c.call().go(bench().x) >= 0 ? 1 : 0, 1);
            due.is(c.name() + " is seen", Later.now(() -> behind(c)).equals(Later.now(() -> behind())) ? 0 : 1, 1);
            due.is(c.name() + " is undone", behind(c).undo(), 0);
            due.same(c.name() + ", undone", Later.byUndoing(() -> behind(c, UNDO)), Later.byUndoing(() -> behind()));
            due.same(c.name() + ", undone, and what is told then", Later.byTelling(() -> behind(c, UNDO)), Later.byTelling(() -> behind()));
        }
    }

    private static void twoChanges() {
        for (Change one : CHANGES) for (Change two : CHANGES) {
            String what = one.name() + ", then " + two.name(), answer = Later.answer(behind(one), two.call());
            if (answer.startsWith("-") || answer.endsWith("Exception")) {
                due.same(what + ", refused", Later.byUndoing(() -> behind(one, two)), Later.byUndoing(() -> behind(one)));
            } else {
                due.is(what, behind(one, two).undo(), 1);
                due.same(what, Later.byUndoing(() -> behind(one, two, UNDO)), Later.byUndoing(() -> behind(one)));
            }
        }
    }

    /** Methods a and b; a gets one name after the other, from c on. */
    private static Bench renamed(int times) {
        Bench b = new Bench(-1);
        b.method(0, "a", "", INT, "1");
        b.method(0, "b", "", INT, "(call a this)");
        for (int i = 0; i < times; i++) due.is("renamed", b.x.renameMethod(0, 2 + i % 14), 1);
        return b;
    }

    private static void tenChanges() {
        Bench none = renamed(0);
        due.badState("none", none.x::undo);
        for (int times = 1; times <= 10; times++) {
            Bench b = renamed(times);
            for (int i = times - 1; i >= 0; i--) {
                due.is("how many can be undone yet", b.x.undo(), i);
                due.is("the name of before", b.x.tell(0, 1), i == 0 ? 0 : 1 + i);
                due.is("in the CALL, too", b.x.node(1, 0, 1), i == 0 ? 0 : 1 + i);
            }
            due.badState("no more", b.x::undo);
            due.is("the first name", b.x.tell(0, 1), 0);
        }
    }

    private static void moreThanTen() {
        for (int times : new int[] {11, 12, 20, 21, 25}) {
            Bench b = renamed(times);
            for (int i = 9; i >= 0; i--) {
                due.is("how many can be undone yet, of " + times, b.x.undo(), i);
                due.is("the name of before", b.x.tell(0, 1), 2 + (times - 11 + i) % 14);
            }
            due.badState("an eleventh, of " + times, b.x::undo);
            due.is("it stays", b.x.tell(0, 1), 2 + (times - 11) % 14);
            due.is("right", b.x.wrong(), -1);
        }
        // The oldest one cannot be undone even when the others are: what it changed stays.
        Bench b = bench();
        b.x.removeDead(5);
        for (int i = 0; i < 10; i++) b.x.renameMethod(5, 5 + i);
        for (int i = 0; i < 10; i++) b.x.undo();
        due.outOfBounds("what was gone is gone", () -> b.x.tell(0, 0));
        due.badState("none", b.x::undo);
    }

    private static void doneAgain() {
        Bench b = renamed(10);
        due.is("undone", b.x.undo(), 9);
        due.is("undone", b.x.undo(), 8);
        due.is("another one", b.x.renameMethod(1, 0), 0);
        due.is("and one more", b.x.renameMethod(1, 15), 0);
        due.is("an eleventh", b.x.renameMethod(1, 14), 0);
        due.is("undone", b.x.undo(), 9);
        due.is("its name", b.x.tell(1, 1), 15);
        due.is("undone", b.x.undo(), 8);
        due.is("its name", b.x.tell(1, 1), 0);
        due.is("undone", b.x.undo(), 7);
        due.is("its name", b.x.tell(1, 1), 1);
        due.is("not what was undone before", b.x.tell(0, 1), 9);
        for (int i = 6; i >= 0; i--) due.is("undone", b.x.undo(), i);
        due.badState("no more", b.x::undo);
        due.is("the oldest one stays", b.x.tell(0, 1), 2);
        for (int i = 0; i < 40; i++) {
            due.is("done", b.x.renameMethod(0, 3 + i % 2), 1);
            due.is("undone", b.x.undo(), 0);
        }
        due.is("as it was", b.x.tell(0, 1), 2);
    }

    private static void toldLater() {
        Change[] told = {
            new Change("classOf", x -> x.classOf(-1)), new Change("classOf, below", x -> x.classOf(0)), new Change("fieldOf", x -> x.fieldOf(0, 9, INT)),
            new Change("method", x -> x.method(0, 15, -1, -1, INT, 0)), new Change("begin", SmithyBench::begin)};
        for (Change t : told) {
            for (int times : new int[] {1, 10, 12}) {
                Bench b = renamed(times);
                due.is(t.name(), t.call().go(b.x) >= 0 ? 1 : 0, 1);
                due.badState(t.name() + " keeps it from being undone", b.x::undo);
                due.is("the name", b.x.tell(0, 1), 1 + times);
                due.is("a change", b.x.renameMethod(0, 0), 1);
                due.is("that is later can be undone", b.x.undo(), 0);
                due.badState("and no other one", b.x::undo);
                due.is("the name", b.x.tell(0, 1), 1 + times);
            }
        }
    }

    private static void notToldLater() {
        Change[] others = {
            new Change("number", x -> x.number(1)), new Change("self", SmithyBench::self), new Change("let", x -> x.let(0, 0, 0)), new Change("make", x -> x.make(0)),
            new Change("wrong", SmithyBench::wrong), new Change("tell", x -> x.tell(0, 7)), new Change("node", x -> x.node(1, 0, 3)),
            new Change("run", x -> x.run(1, 0, 0, 0, false)), new Change("value", SmithyBench::value), new Change("steps", SmithyBench::steps)};
        for (Change o : others) {
            Bench b = renamed(2);
            o.call().go(b.x);
            due.is(o.name() + " does not keep it", b.x.undo(), 1);
            due.is(o.name() + " does not keep it", b.x.undo(), 0);
        }
    }

    private static void refused() {
        Later.Call[] throwing = {
            x -> x.classOf(9), x -> x.fieldOf(0, 16, INT), x -> x.fieldOf(1, 0, INT), x -> x.method(0, 1, -1, -1, INT, 0), x -> x.method(0, 16, -1, -1, INT, 0),
            x -> x.method(0, 9, 0, 0, INT, 0), x -> x.renameMethod(0, 16), x -> x.run(9, 0, 0, 0, false), x -> x.var(16)};
        for (int i = 0; i < throwing.length; i++) {
            Bench b = renamed(3);
            due.is("it throws", Later.answer(b.x, throwing[i]).endsWith("Exception") ? 1 : 0, 1);
            due.is("and does not keep it, " + i, b.x.undo(), 2);
        }
        Bench b = renamed(10);
        due.is("a CLASH", b.x.renameMethod(0, 1), SmithyBench.CLASH);
        due.is("NOT_THAT", b.x.pullUp(0), SmithyBench.NOT_THAT);
        for (int i = 9; i >= 0; i--) due.is("is no change", b.x.undo(), i);
        due.is("the first name", b.x.tell(0, 1), 0);
        // No change is refused since there are ten of them, nor one that changes nothing.
        Bench c = renamed(10);
        due.is("none is dead", c.x.removeDead(1), 0);
        due.is("that was one", c.x.undo(), 9);
        due.is("the last name", c.x.tell(0, 1), 11);
        calls.badState("begin of what is not right", UndoingTest::wrong, SmithyBench::begin);
    }

    private static Bench wrong() {
        Bench b = bench();
        b.method(0, "p", "", INT, "this");
        return b;
    }

    private static void beginning() {
        Bench b = bench();
        due.is("how many", b.x.begin(), 6);
        due.is("one more", b.x.extract(0, 1, 9), 601);
        due.is("how many", b.x.begin(), 7);
        due.badState("nothing can be undone then", b.x::undo);
        due.is("gone", b.x.removeDead(6), 6);
        due.is("undone", b.x.undo(), 0);
        due.is("the beginning is the same", b.x.run(6, 0, 3, 4, true), SmithyBench.NUMBER);
        due.is("value", b.x.value(), 7);
        due.is("gone", b.x.removeDead(6), 6);
        due.is("how many", b.x.begin(), 1);
        due.badState("nothing can be undone then", b.x::undo);
        due.outOfBounds("no longer of the beginning", () -> b.x.run(0, 0, 3, 4, true));
        // What is told behind it is of the program of now alone.
        Bench c = bench();
        c.x.begin();
        c.method(3, "p", "", INT, "7");
        due.is("a class", c.x.classOf(3), 4);
        due.is("a field", c.x.fieldOf(4, 9, INT), 1);
        due.outOfBounds("a method of the beginning", () -> c.x.run(6, 3, 0, 0, true));
        due.is("of now", c.x.run(6, 4, 0, 0, false), SmithyBench.NUMBER);
        due.outOfBounds("a class of the beginning", () -> c.x.run(2, 4, 0, 0, true));
        due.is("a class of now", c.x.run(2, 4, 0, 0, false), SmithyBench.NUMBER);
        c.method(3, "o", "", INT, "this");
        due.badState("now it is not right", c.x::begin);
        due.is("and the beginning is as it was", c.x.run(2, 3, 0, 0, true), SmithyBench.NUMBER);
    }
}
