/** Promises 30 to 34: what is told of methods and nodes, and running. */
public final class AskingTest {
    private static final Due due = new Due("asking");
    private static final int INT = SmithyBench.INT;
    private static final int NUMBER = 0, OBJECT = 1, NOTHING = 2, RAISED = 3, LOST = 4, ENDLESS = 5;

    public static void main(String[] arguments) {
        due.part("promise 30", AskingTest::tell);
        due.part("promise 30, families", AskingTest::families);
        due.part("promise 31", AskingTest::nodes);
        due.part("promise 31, not right", AskingTest::nodesOfWhatIsNotRight);
        due.part("promise 31, bindings", AskingTest::bindings);
        due.part("promise 32", AskingTest::runs);
        due.part("promise 32, refused", AskingTest::runsThatAreRefused);
        due.part("promise 32, objects", AskingTest::objects);
        due.part("promise 32, raising", AskingTest::raising);
        due.part("promise 32, steps", AskingTest::limitOfSteps);
        due.part("promise 32, depth", AskingTest::limitOfDepth);
        due.part("promise 32, calls", AskingTest::calls);
        due.part("promises 33 and 34", AskingTest::lastRun);
        due.end();
    }

    private static void tell() {
        Bench b = new Bench(-1, 0);
        b.method(0, "d", "", INT, "1");
        b.method(1, "e", "c-", 1, "this");
        b.method(1, "e", "c- b1", 0, "(seq 1 this)");
        int[][] want = {{0, 3, 0, -1, -1, -1, 1, 1}, {1, 4, 1, 2, -1, 1, 1, 1}, {1, 4, 2, 2, 1, 0, 3, 1}};
        for (int m = 0; m < 3; m++) for (int what = 0; what < 8; what++) due.is("tell " + m + " " + what, b.x.tell(m, what), want[m][what]);
        due.badArgument("what 8", () -> b.x.tell(0, 8));
        due.badArgument("what -1", () -> b.x.tell(0, -1));
        due.outOfBounds("method 3", () -> b.x.tell(3, 8));
        due.outOfBounds("method -1", () -> b.x.tell(-1, -1));
        due.outOfBounds("method 24", () -> b.x.tell(24, 0));
        b.x.removeDead(1);
        due.outOfBounds("a method that is gone", () -> b.x.tell(0, 0));
        due.is("one that is not", b.x.tell(1, 1), 4);
    }

    private static void families() {
        // 1 and 2 are akin over 0; 3 is by itself, with 4 below it.
        Bench b = new Bench(-1, 0, 0, -1, 3);
        b.method(1, "a", "", INT, "1");
        b.method(2, "a", "", INT, "1");
        due.is("not akin", b.x.tell(0, 7), 1);
        b.method(0, "a", "", INT, "1");
        due.is("over another one", b.x.tell(0, 7), 3);
        b.method(3, "a", "", INT, "1");
        b.method(4, "a", "", INT, "1");
        b.method(4, "a", "a-", INT, "1");
        b.method(4, "b", "", INT, "1");
        due.is("the first", b.x.tell(0, 7), 3);
        due.is("from above", b.x.tell(2, 7), 3);
        due.is("the other one", b.x.tell(3, 7), 2);
        due.is("another number of parameters", b.x.tell(5, 7), 1);
        due.is("another name", b.x.tell(6, 7), 1);
    }

    private static void nodes() {
        Bench b = new Bench(-1, 0);
        b.x.fieldOf(0, 3, INT);
        b.method(0, "a", "a0", INT, "(seq (put d this 5) (let b new1 (test (field d b) (+ d 1) (raise (call a this b)))))");
        int[] kinds = {9, 4, 2, 0, 5, 8, 10, 3, 1, 11, 1, 0, 12, 7, 2, 1};
        int[] values = {0, 3, 0, 5, 1, 1, 0, 3, 1, 0, 3, 1, 0, 0, 0, 1};
        int[] types = {-1, -1, 0, -1, -1, 1, -1, -1, 1, -1, -1, -1, -2, -1, 0, 1};
        int[] bound = {0, 1000, 0, 0, 0, 0, 0, 1000, 4, 0, 1000, 0, 0, 2000, 0, 4};
        for (int i = 0; i < 16; i++) {
            due.is("kind " + i, b.x.node(0, i, 0), kinds[i]);
            due.is("value " + i, b.x.node(0, i, 1), values[i]);
            due.is("type " + i, b.x.node(0, i, 2), types[i]);
            due.is("bound " + i, b.x.node(0, i, 3), bound[i]);
        }
        due.outOfBounds("place 16", () -> b.x.node(0, 16, 4));
        due.outOfBounds("place -1", () -> b.x.node(0, -1, 4));
        due.outOfBounds("place 60", () -> b.x.node(0, 60, 0));
        due.outOfBounds("method 1", () -> b.x.node(1, 0, 4));
        due.outOfBounds("method -1", () -> b.x.node(-1, 0, 4));
        due.badArgument("what 4", () -> b.x.node(0, 0, 4));
        due.badArgument("what -1", () -> b.x.node(0, 0, -1));
    }

    private static void nodesOfWhatIsNotRight() {
        Bench b = new Bench(-1);
        b.method(0, "a", "a-", INT, "(seq this a)");
        due.is("type", b.x.node(0, 1, 2), 0);
        due.is("bound", b.x.node(0, 2, 3), -1);
        b.method(0, "b", "", INT, "(raise this)");
        due.is("kind", b.x.node(0, 2, 0), 1);
        due.is("name", b.x.node(0, 2, 1), 0);
        due.is("no type", b.x.node(0, 2, 2), 0);
        due.is("no binding", b.x.node(0, 2, 3), 0);
    }

    private static void bindings() {
        Bench b = new Bench(-1, 0, 1);
        b.x.fieldOf(0, 2, INT);
        b.x.fieldOf(1, 3, INT);
        b.method(1, "a", "a- b-", INT, "(let a a (let b (set a b) (+ (+ a b) (+ c (set d b)))))");
        b.method(0, "b", "", INT, "1");
        b.method(2, "b", "", INT, "2");
        b.method(2, "c", "", INT, "(+ (call b new1) (call b this))");
        // 0 LET a, 1 VAR a, 2 LET b, 3 SET a, 4 VAR b, 5 +, 6 +, 7 VAR a, 8 VAR b, 9 +, 10 VAR c, 11 SET d, 12 VAR b
        int[] bound = {0, -1, 0, 0, -2, 0, 0, 0, 2, 0, 1000, 1001, 2};
        for (int i = 0; i < bound.length; i++) due.is("bound " + i, b.x.node(0, i, 3), bound[i]);
        due.is("that of the next one above", b.x.node(3, 1, 3), 2001);
        due.is("its own", b.x.node(3, 3, 3), 2002);
        // One more program: LETs of one name within one another, and beside.
        Bench c = new Bench(-1);
        c.method(0, "a", "a-", INT, "(+ (let a 1 (let a (+ a 1) a)) (let a 2 a))");
        due.is("the outer one, in the v", c.x.node(0, 5, 3), 1);
        due.is("the inner one", c.x.node(0, 7, 3), 3);
        due.is("the one beside", c.x.node(0, 10, 3), 8);
    }

    private static void is(Bench b, int method, int of, int first, int second, int... want) {
        String what = "run " + method + " on " + of;
        due.is(what, b.x.run(method, of, first, second, false), want[0]);
        due.is(what + ", value", b.x.value(), want[1]);
        due.is(what + ", steps", b.x.steps(), want[2]);
    }

    private static void runs() {
        Bench b = new Bench(-1, 0);
        b.method(0, "a", "a- b-", INT, "(- a b)");
        b.method(0, "b", "a- b-", INT, "(* a b)");
        b.method(0, "c", "a- b-", INT, "(< a b)");
        b.method(0, "d", "a- b-", INT, "(test a (+ b 1) 7)");
        b.method(0, "e", "a- b-", INT, "(let c (+ a 1) (seq (set c (+ c b)) (+ c (let c 10 c))))");
        b.method(0, "f", "a- b-", INT, "(+ (set a 5) (+ a b))");
        b.method(0, "g", "a- b-", INT, "(+ a b)");
        is(b, 0, 0, 3, 5, NUMBER, -2, 3);
        is(b, 0, 0, Integer.MIN_VALUE, 1, NUMBER, Integer.MAX_VALUE, 3);
        is(b, 6, 0, Integer.MAX_VALUE, 1, NUMBER, Integer.MIN_VALUE, 3);
        is(b, 1, 0, 65536, 65536, NUMBER, 0, 3);
        is(b, 1, 0, -7, 6, NUMBER, -42, 3);
        is(b, 2, 0, 3, 5, NUMBER, 1, 3);
        is(b, 2, 0, 5, 5, NUMBER, 0, 3);
        is(b, 2, 0, Integer.MIN_VALUE, 1, NUMBER, 1, 3);
        is(b, 3, 0, -1, 5, NUMBER, 6, 5);
        is(b, 3, 0, 0, 5, NUMBER, 7, 3);
        is(b, 4, 1, 3, 4, NUMBER, 18, 14);
        is(b, 5, 1, 3, 4, NUMBER, 14, 6);
    }

    private static void runsThatAreRefused() {
        Bench b = new Bench(-1, 0, -1);
        b.method(1, "a", "", INT, "1");
        b.method(0, "b", "a0", INT, "1");
        b.method(0, "c", "a- b0", INT, "1");
        due.badState("none was begun with", () -> b.x.run(9, 9, 0, 0, true));
        due.outOfBounds("no method", () -> b.x.run(3, 0, 0, 0, false));
        due.outOfBounds("method -1", () -> b.x.run(-1, 0, 0, 0, false));
        due.outOfBounds("no class", () -> b.x.run(0, 3, 0, 0, false));
        due.outOfBounds("no class, and a parameter that is not INT", () -> b.x.run(1, -1, 0, 0, false));
        due.badArgument("a class above", () -> b.x.run(0, 0, 0, 0, false));
        due.badArgument("another class", () -> b.x.run(0, 2, 0, 0, false));
        due.badArgument("the first one is not INT", () -> b.x.run(1, 0, 0, 0, false));
        due.badArgument("the second one is not INT", () -> b.x.run(2, 0, 0, 0, false));
        b.x.begin();
        due.is("of the beginning", b.x.run(0, 1, 0, 0, true), NUMBER);
        b.method(0, "d", "", INT, "this");
        due.badState("not right", () -> b.x.run(0, 1, 0, 0, false));
        due.outOfBounds("not right, no method", () -> b.x.run(4, 1, 0, 0, false));
        due.badArgument("not right, a class above", () -> b.x.run(0, 0, 0, 0, false));
        due.is("the beginning was right", b.x.run(0, 1, 0, 0, true), NUMBER);
        due.is("value", b.x.value(), 1);
    }

    private static void objects() {
        Bench b = new Bench(-1, 0, -1);
        b.x.fieldOf(0, 0, INT);
        b.x.fieldOf(0, 1, 2);
        b.x.fieldOf(1, 2, 0);
        b.x.fieldOf(2, 3, INT);
        b.method(0, "a", "", INT, "a");
        b.method(0, "b", "", 2, "b");
        b.method(1, "c", "", 0, "(set c this)");
        b.method(1, "d", "", INT, "(seq (set c new0) (seq (put a c 4) (+ (field a c) (+ a (set a 2)))))");
        b.method(1, "e", "", INT, "(let d new1 (let e new1 (seq (put a d 3) (+ (field a d) (field a e)))))");
        b.method(1, "f", "", INT, "(let d new1 (let e d (seq (put a d 3) (+ (field a d) (field a e)))))");
        b.method(0, "g", "", 2, "(let e new1 (put b e new2))");
        is(b, 0, 0, 9, 9, NUMBER, 0, 1);
        is(b, 1, 1, 9, 9, NOTHING, 0, 1);
        is(b, 2, 1, 9, 9, OBJECT, 1, 2);
        is(b, 3, 1, 9, 9, NUMBER, 6, 14);
        is(b, 4, 1, 9, 9, NUMBER, 3, 13);
        is(b, 5, 1, 9, 9, NUMBER, 6, 13);
        is(b, 6, 0, 9, 9, OBJECT, 2, 5);
        is(b, 0, 1, 9, 9, NUMBER, 0, 1);
    }

    private static void raising() {
        Bench b = new Bench(-1);
        b.x.fieldOf(0, 0, INT);
        b.x.fieldOf(0, 1, 0);
        b.method(0, "a", "", INT, "(raise 5)");
        b.method(0, "b", "", INT, "(raise (raise 6))");
        b.method(0, "c", "", INT, "(field a b)");
        b.method(0, "d", "", INT, "(put a b (raise 7))");
        b.method(0, "e", "", INT, "(put a b (set a 7))");
        b.method(0, "f", "a- b-", INT, "(+ a b)");
        b.method(0, "g", "", INT, "(call f b 1 (raise 8))");
        b.method(0, "h", "", INT, "(call f b 1 2)");
        b.method(0, "i", "", INT, "(guard (call h this) (+ a 9))");
        b.method(0, "j", "", INT, "(guard (seq (set a 4) (+ 1 (raise 1))) a)");
        b.method(0, "k", "", INT, "(guard (guard (raise 1) (raise 2)) (raise 3))");
        b.method(0, "l", "", INT, "(guard 4 (raise 3))");
        b.method(0, "m", "", INT, "(+ (guard (raise 1) 2) (+ (guard (call a this) 3) 4))");
        b.method(0, "n", "", INT, "(let c 1 (guard (let c 2 (raise c)) c))");
        b.method(0, "o", "", 0, "(raise -8)");
        b.method(0, "p", "", INT, "(seq (raise 1) 2)");
        is(b, 0, 0, 0, 0, RAISED, 5, 2);
        is(b, 1, 0, 0, 0, RAISED, 6, 3);
        is(b, 2, 0, 0, 0, LOST, 0, 2);
        is(b, 3, 0, 0, 0, RAISED, 7, 4);
        is(b, 4, 0, 0, 0, LOST, 0, 4);
        is(b, 6, 0, 0, 0, RAISED, 8, 5);
        is(b, 7, 0, 0, 0, LOST, 0, 4);
        is(b, 8, 0, 0, 0, NUMBER, 9, 10);
        is(b, 9, 0, 0, 0, NUMBER, 4, 9);
        is(b, 10, 0, 0, 0, RAISED, 3, 8);
        is(b, 11, 0, 0, 0, NUMBER, 4, 2);
        is(b, 12, 0, 0, 0, NUMBER, 9, 13);
        is(b, 13, 0, 0, 0, NUMBER, 1, 8);
        is(b, 14, 0, 0, 0, RAISED, -8, 2);
        is(b, 15, 0, 0, 0, RAISED, 1, 3);
    }

    private static void limitOfSteps() {
        Bench b = new Bench(-1);
        due.is("7 nodes", b.x.method(0, 10, -1, -1, INT, b.tell("(+ (+ 1 2) (+ 1 2))")), 0);
        // A CALL of method k takes 9 steps, so 5 of these in 4 sums take 49.
        int call = b.tell("(call k this)");
        int calls = call;
        for (int i = 1; i < 5; i++) calls = b.x.two(2, calls, call);
        b.x.method(0, 11, -1, -1, INT, calls);
        is(b, 1, 0, 0, 0, NUMBER, 30, 49);
        // A CALL of method l takes 51 steps, so 9 of these in 8 sums take 467; what is added makes 497 of them.
        int l = b.tell("(call l this)");
        int sum = l;
        for (int i = 1; i < 9; i++) sum = b.x.two(2, sum, l);
        int more = b.tell("(+ (+ (call k this) (+ (call k this) 4)) (+ 1 (+ 2 (+ 3 4))))");
        int all = b.x.two(2, sum, more);
        b.x.method(0, 12, -1, -1, INT, all);
        is(b, 2, 0, 0, 0, NUMBER, 296, 497);
        int one = b.tell("1"), three = b.tell("3");
        b.x.method(0, 13, -1, -1, INT, b.x.two(0, one, b.x.raise(all)));
        is(b, 3, 0, 0, 0, RAISED, 296, 500);
        b.x.method(0, 14, -1, -1, INT, b.x.two(0, one, b.x.two(0, all, three)));
        is(b, 4, 0, 0, 0, ENDLESS, 0, 500);
        b.x.method(0, 15, -1, -1, INT, b.x.two(0, one, b.x.two(2, all, b.tell("(- 1 0)"))));
        is(b, 5, 0, 0, 0, ENDLESS, 0, 500);
        b.x.method(0, 9, -1, -1, INT, b.x.two(1, all, three));
        is(b, 6, 0, 0, 0, NUMBER, 296, 498);
        b.x.method(0, 8, -1, -1, INT, b.x.two(1, b.x.raise(all), three));
        is(b, 7, 0, 0, 0, NUMBER, 3, 500);
        b.x.method(0, 7, -1, -1, INT, b.x.two(1, b.x.raise(b.x.raise(all)), three));
        is(b, 8, 0, 0, 0, ENDLESS, 0, 500);
    }

    private static void limitOfDepth() {
        Bench b = new Bench(-1);
        b.method(0, "a", "a-", INT, "(test a (call a this (- a 1)) 6)");
        b.method(0, "b", "", INT, "(guard (call b this) 1)");
        b.method(0, "c", "a-", INT, "(guard (call a this a) (call a this a))");
        b.method(0, "d", "a-", INT, "(test a (+ (call d this (- a 1)) (call d this 0)) 1)");
        // A method that runs n more: 7 nodes for each that is not the last one, 3 for the last one.
        is(b, 0, 0, 19, 0, NUMBER, 6, 7 * 19 + 3);
        is(b, 0, 0, 20, 0, ENDLESS, 0, 7 * 20);
        is(b, 1, 0, 0, 0, ENDLESS, 0, 60);
        is(b, 2, 0, 18, 0, NUMBER, 6, 4 + 7 * 18 + 3);
        is(b, 2, 0, 19, 0, ENDLESS, 0, 4 + 7 * 19);
        // What has run to its end is not within any more.
        is(b, 3, 0, 19, 0, NUMBER, 20, 14 * 19 + 3);
    }

    private static void calls() {
        Bench b = new Bench(-1, 0, 1, 0);
        b.method(0, "a", "", INT, "(call b this)");
        b.method(0, "b", "", INT, "1");
        b.method(2, "b", "", INT, "2");
        b.method(1, "c", "a- b-", INT, "(+ (* a 10) b)");
        b.method(0, "d", "", INT, "(call c new2 3 4)");
        b.method(0, "e", "", INT, "(let a 5 (+ (call f this 2) a))");
        b.method(0, "f", "a-", INT, "(set a (+ a 1))");
        b.method(0, "b", "b-", INT, "7");
        is(b, 0, 0, 0, 0, NUMBER, 1, 3);
        is(b, 0, 1, 0, 0, NUMBER, 1, 3);
        is(b, 0, 2, 0, 0, NUMBER, 2, 3);
        is(b, 0, 3, 0, 0, NUMBER, 1, 3);
        is(b, 1, 2, 0, 0, NUMBER, 1, 1);
        is(b, 4, 3, 0, 0, NUMBER, 34, 9);
        is(b, 5, 0, 0, 0, NUMBER, 8, 11);
    }

    private static void lastRun() {
        Bench b = new Bench(-1);
        b.method(0, "a", "a-", INT, "(+ a 1)");
        b.method(0, "b", "", INT, "(raise 3)");
        due.is("value", b.x.value(), 0);
        due.is("steps", b.x.steps(), 0);
        b.x.run(0, 0, 4, 0, false);
        b.x.begin();
        due.is("value", b.x.value(), 5);
        due.is("steps", b.x.steps(), 3);
        due.badArgument("run", () -> b.x.run(0, 0, 4, 0, false) + b.x.tell(0, 9));
        due.outOfBounds("run", () -> b.x.run(2, 0, 4, 0, false));
        due.is("value", b.x.value(), 5);
        due.is("steps", b.x.steps(), 3);
        b.x.run(1, 0, 4, 0, true);
        due.is("value", b.x.value(), 3);
        due.is("steps", b.x.steps(), 2);
        b.x.removeDead(0);
        due.is("value", b.x.value(), 3);
        b.x.run(0, 0, -1, 0, false);
        due.is("value", b.x.value(), 0);
        due.is("steps", b.x.steps(), 3);
    }
}
