/** "Running", sentence by sentence: order, ints, what is raised and held, steps, and methods within one another. */
public final class RunningTest {
    private static final Due due = new Due("running");
    private static final int INT = SmithyBench.INT;
    private static final int NUMBER = 0, OBJECT = 1, NOTHING = 2, RAISED = 3, LOST = 4, ENDLESS = 5;
    private static final int LEAST = Integer.MIN_VALUE, GREATEST = Integer.MAX_VALUE;

    public static void main(String[] arguments) {
        due.part("new objects", RunningTest::newObjects);
        due.part("arguments", RunningTest::arguments);
        due.part("fields of the object", RunningTest::fieldsOfObjects);
        due.part("many runs", RunningTest::manyRuns);
        due.part("the class of the object", RunningTest::dispatch);
        due.part("what nodes give", RunningTest::given);
        due.part("order", RunningTest::order);
        due.part("what is raised at nothing", RunningTest::atNothing);
        due.part("raising", RunningTest::raising);
        due.part("GUARD", RunningTest::guards);
        due.part("ints", RunningTest::ints);
        due.part("steps of each node", RunningTest::stepsOfNodes);
        due.part("500 steps", RunningTest::fiveHundred);
        due.part("500 steps, ways to end", RunningTest::waysToEndAt500);
        due.part("500 objects", RunningTest::manyObjects);
        due.part("20 methods", RunningTest::twentyMethods);
        due.part("20 methods, of others", RunningTest::twentyOfOthers);
        due.part("locals", RunningTest::locals);
        due.part("the program of the beginning", RunningTest::beginning);
        due.end();
    }

    private static void is(String what, Bench b, int method, int of, int how, int value) {
        due.is(what, b.x.run(method, of, 0, 0, false), how);
        due.is(what + ", value", b.x.value(), value);
    }

    /** Class 1 below 0; fields a and b of INT and c of an object; f and g answer with what they take. */
    private static Bench bench() {
        Bench b = new Bench(-1, 0);
        b.x.fieldOf(0, 0, INT);
        b.x.fieldOf(0, 1, INT);
        b.x.fieldOf(0, 2, 0);
        b.method(0, "f", "a- b-", INT, "b");
        b.method(0, "g", "", INT, "(raise 9)");
        return b;
    }

    private static void is(String body, int how, int value) {
        Bench b = bench();
        b.method(0, "a", "", INT, body);
        due.is(body, b.x.run(2, 0, 0, 0, false), how);
        due.is(body + ", value", b.x.value(), value);
    }

    private static void newObjects() {
        Bench b = bench();
        b.x.fieldOf(1, 3, 1);
        b.x.fieldOf(1, 4, INT);
        b.method(1, "a", "", INT, "(seq (set a (+ a 1)) (seq (set e (+ e 10)) (+ a e)))");
        b.method(1, "b", "", 1, "d");
        b.method(0, "c", "", 0, "c");
        b.method(0, "d", "", 0, "this");
        b.method(1, "e", "", 1, "(seq (set d new1) (field d new1))");
        b.method(1, "h", "", 1, "(seq (set d new1) d)");
        is("fields of a number are 0", b, 2, 1, NUMBER, 11);
        is("and again, on another object", b, 2, 1, NUMBER, 11);
        is("fields of an object are nothing", b, 3, 1, NOTHING, 0);
        is("those above, too", b, 4, 1, NOTHING, 0);
        is("an object of its own class", b, 5, 0, OBJECT, 0);
        is("an object of a class below", b, 5, 1, OBJECT, 1);
        is("each MAKE is another object", b, 6, 1, NOTHING, 0);
        is("what is set is there", b, 7, 1, OBJECT, 1);
    }

    private static void arguments() {
        Bench b = new Bench(-1);
        b.method(0, "a", "a- b-", INT, "(- (* 10 a) b)");
        b.method(0, "b", "a-", INT, "a");
        b.x.run(0, 0, 5, 3, false);
        due.is("the first and the second", b.x.value(), 47);
        b.x.run(1, 0, LEAST, 3, false);
        due.is("the least", b.x.value(), LEAST);
        b.x.run(1, 0, GREATEST, 3, false);
        due.is("the greatest", b.x.value(), GREATEST);
    }

    private static void fieldsOfObjects() {
        Bench b = bench();
        b.method(0, "j", "a-", INT, "(seq (set b a) b)");
        b.method(0, "k", "", INT, "(+ b (* 10 a))");
        b.method(1, "a", "", INT, "(let d new1 (let e new0 (seq (call j e 7) (seq (call j d 4) (seq (set b 3) (+ (call k this) (+ (* 100 (call k d)) (* 10000 (call k e)))))))))");
        is("VAR and SET are of the object that is run on", b, 4, 1, NUMBER, 70403);
        b.method(1, "b", "", INT, "(let d new1 (seq (put a d 2) (seq (set a 9) (+ (field a d) (* 10 (call k d))))))");
        is("as FIELD and PUT are of theirs", b, 5, 1, NUMBER, 202);
        b.method(0, "c", "", INT, "(seq (set c new1) (seq (put c c new0) (seq (put a (field c c) 6) (+ (call k (field c c)) (+ (call k c) (call k this))))))");
        is("over others", b, 6, 0, NUMBER, 60);
    }

    private static void manyRuns() {
        Bench b = bench();
        b.method(0, "a", "", INT, "(seq (seq new1 new1) (seq (set a (+ a 1)) (seq new0 a)))");
        for (int i = 0; i < 150; i++) {
            due.is("run", b.x.run(2, 0, 0, 0, false), NUMBER);
            due.is("each has a new object", b.x.value(), 1);
            due.is("and as many steps", b.x.steps(), 12);
        }
    }

    private static void dispatch() {
        Bench b = new Bench(-1, 0, 1, 2, 0);
        b.method(0, "a", "", INT, "0");
        b.method(2, "a", "", INT, "2");
        b.method(4, "a", "", INT, "4");
        b.method(1, "a", "b-", INT, "10");
        b.method(0, "b", "", INT, "(call a this)");
        b.method(0, "c", "b0", INT, "(call a b)");
        b.method(0, "d", "", INT, "(call c this this)");
        int[] want = {0, 0, 2, 2, 4};
        for (int c = 0; c < 5; c++) {
            is("on a class " + c, b, 4, c, NUMBER, want[c]);
            is("by way of a parameter, on a class " + c, b, 6, c, NUMBER, want[c]);
        }
        // A method runs on what it is told of, whatever overrides it.
        is("the method that is run", b, 0, 2, NUMBER, 0);
    }

    private static void given() {
        is("7", NUMBER, 7);
        is("a", NUMBER, 0);
        is("(set a 5)", NUMBER, 5);
        is("(put a this 6)", NUMBER, 6);
        is("(seq (set a 5) a)", NUMBER, 5);
        is("(seq (put a this 6) (field a this))", NUMBER, 6);
        is("(put a this (set b 8))", NUMBER, 8);
        is("(field a (put c this (seq (set a 4) this)))", NUMBER, 4);
        is("(let d 3 4)", NUMBER, 4);
        is("(let d 3 d)", NUMBER, 3);
        is("(let d 3 (set d 9))", NUMBER, 9);
        is("(let d 3 (seq (set d 9) d))", NUMBER, 9);
        is("(call f this 1 2)", NUMBER, 2);
        is("(seq 1 2)", NUMBER, 2);
        is("(test 1 2 3)", NUMBER, 2);
        is("(test 0 2 3)", NUMBER, 3);
        is("(+ 1 2)", NUMBER, 3);
        is("(- 1 2)", NUMBER, -1);
        is("(* 3 2)", NUMBER, 6);
        is("(< 1 2)", NUMBER, 1);
        is("(< 2 1)", NUMBER, 0);
        is("(guard 1 2)", NUMBER, 1);
        Bench b = bench();
        b.method(1, "a", "", 0, "(put c this new1)");
        b.method(1, "b", "", 0, "(set c this)");
        b.method(1, "c", "", 0, "(let d c (set d new0))");
        b.method(1, "d", "", 0, "(guard (raise 1) (test 0 new0 this))");
        int[] want = {1, 1, 0, 1};
        for (int m = 2; m < 6; m++) is("an object of method " + m, b, m, 1, OBJECT, want[m - 2]);
    }

    /** Logs a digit: the field a is 10 times what it was, and the digit. */
    private static String log(int digit) { return "(set a (+ (* a 10) " + digit + "))"; }

    private static void logs(String body, int want) { is("(seq " + body.replace("L1", log(1)).replace("L2", log(2)).replace("L3", log(3)) + " a)", NUMBER, want); }

    private static void order() {
        logs("(+ L1 L2)", 12);
        logs("(< L1 L2)", 12);
        logs("(seq L1 L2)", 12);
        logs("(put b (seq L1 this) L2)", 12);
        logs("(call f (seq L1 this) L2 L3)", 123);
        logs("(let d L1 L2)", 12);
        logs("(set b L1)", 1);
        logs("(test L1 L2 L3)", 12);
        logs("(test (seq L1 0) L2 L3)", 13);
        logs("(guard L1 L2)", 1);
        logs("(guard (seq L1 (raise L2)) L3)", 123);
        logs("(+ (+ L1 L2) L3)", 123);
        logs("(+ L1 (+ L2 L3))", 123);
        logs("(field b (seq L1 this))", 1);
    }

    private static void atNothing() {
        is("(field a c)", LOST, 0);
        is("(put a c 1)", LOST, 0);
        is("(call f c 1 2)", LOST, 0);
        // When all its parts were found: what these do is done, and what they raise goes ahead.
        is("(seq (guard (put b c (set a 5)) 0) a)", NUMBER, 5);
        is("(seq (guard (call f c (set a 5) (set b 6)) 0) (+ (* 10 a) b))", NUMBER, 56);
        is("(put a c (raise 4))", RAISED, 4);
        is("(call f c (raise 4) (raise 5))", RAISED, 4);
        is("(call f c 1 (raise 5))", RAISED, 5);
        is("(call f (field c c) (raise 5) 1)", LOST, 0);
        is("(put a (field c c) (raise 5))", LOST, 0);
        is("(guard (field a c) 7)", NUMBER, 7);
        is("(guard (put a c 1) 7)", NUMBER, 7);
        is("(guard (call f c 1 2) 7)", NUMBER, 7);
        is("(seq c 8)", NUMBER, 8);
        is("(seq (set c c) 8)", NUMBER, 8);
        is("(let d c 8)", NUMBER, 8);
        is("(+ 1 (raise (field a c)))", LOST, 0);
        is("(guard (raise (field a c)) (raise 3))", RAISED, 3);
    }

    private static void raising() {
        for (int n : new int[] {0, 1, -1, LEAST, GREATEST}) {
            Bench b = bench();
            b.x.method(0, 0, -1, -1, 0, b.x.raise(b.x.number(n)));
            is("raise " + n, b, 2, 0, RAISED, n);
        }
        is("(raise (+ 2 3))", RAISED, 5);
        is("(raise (raise 2))", RAISED, 2);
        is("(+ (raise 1) (raise 2))", RAISED, 1);
        is("(seq (raise 1) 2)", RAISED, 1);
        is("(let d (raise 1) 2)", RAISED, 1);
        is("(test (raise 1) 2 3)", RAISED, 1);
        is("(test 1 2 (raise 3))", NUMBER, 2);
        is("(test 0 (raise 3) 2)", NUMBER, 2);
        is("(set a (raise 3))", RAISED, 3);
        is("(call g this)", RAISED, 9);
        is("(call f this (call g this) (raise 1))", RAISED, 9);
    }

    private static void guards() {
        is("(guard 1 2)", NUMBER, 1);
        is("(guard (raise 1) 2)", NUMBER, 2);
        is("(guard (raise 1) (raise 2))", RAISED, 2);
        is("(guard (guard (raise 1) (raise 2)) 3)", NUMBER, 3);
        is("(guard (guard (raise 1) 2) 3)", NUMBER, 2);
        is("(guard (+ 1 (call g this)) 4)", NUMBER, 4);
        is("(guard (guard 1 (raise 2)) 3)", NUMBER, 1);
        is("(+ (guard (raise 1) 20) (guard (raise 2) 3))", NUMBER, 23);
        is("(+ 100 (+ (guard (+ 50 (+ 60 (raise 1))) 20) 3))", NUMBER, 123);
        is("(guard (raise 1) (guard (raise 2) (raise 3)))", RAISED, 3);
        is("(seq (guard (seq (set a 4) (raise 1)) 0) a)", NUMBER, 4);
        is("(let d 1 (seq (guard (seq (set d 2) (raise 1)) 0) d))", NUMBER, 2);
        is("(let d 1 (guard (let d 2 (raise 1)) d))", NUMBER, 1);
        is("(guard (call f this 1 (raise 2)) (call f this 3 4))", NUMBER, 4);
        Bench b = new Bench(-1);
        b.method(0, "a", "a-", INT, "(guard (raise a) (+ a 1))");
        b.method(0, "b", "a-", INT, "(+ (call a this a) (+ (call a this 20) a))");
        due.is("one in another method", b.x.run(1, 0, 300, 0, false), NUMBER);
        due.is("value", b.x.value(), 301 + 21 + 300);
    }

    private static int result(int kind, int first, int second) {
        Bench b = new Bench(-1);
        b.x.method(0, 0, 0, 1, INT, b.x.two(kind, b.x.var(0), b.x.var(1)));
        due.is("run", b.x.run(0, 0, first, second, false), NUMBER);
        return b.x.value();
    }

    private static void ints() {
        due.is("the greatest and 1", result(2, GREATEST, 1), LEAST);
        due.is("the greatest, twice", result(2, GREATEST, GREATEST), -2);
        due.is("the least, twice", result(2, LEAST, LEAST), 0);
        due.is("the least and the greatest", result(2, LEAST, GREATEST), -1);
        due.is("the least less 1", result(3, LEAST, 1), GREATEST);
        due.is("0 less the least", result(3, 0, LEAST), LEAST);
        due.is("the greatest less -1", result(3, GREATEST, -1), LEAST);
        due.is("the greatest less the least", result(3, GREATEST, LEAST), -1);
        due.is("the least times -1", result(4, LEAST, -1), LEAST);
        due.is("65536 times 65536", result(4, 65536, 65536), 0);
        due.is("46341 times itself", result(4, 46341, 46341), -2147479015);
        due.is("the greatest times itself", result(4, GREATEST, GREATEST), 1);
        due.is("the greatest times 2", result(4, GREATEST, 2), -2);
        // Is less, and not whether the difference is.
        due.is("the least is less than the greatest", result(5, LEAST, GREATEST), 1);
        due.is("the greatest is not less than the least", result(5, GREATEST, LEAST), 0);
        due.is("the greatest is not less than -1", result(5, GREATEST, -1), 0);
        due.is("the least is less than 1", result(5, LEAST, 1), 1);
        due.is("1 is not less than 1", result(5, 1, 1), 0);
        due.is("1 is less than 2", result(5, 1, 2), 1);
        due.is("2 is not less than 1", result(5, 2, 1), 0);
        // c is not 0, whatever else it is.
        Bench b = new Bench(-1);
        b.method(0, "a", "a-", INT, "(test a 7 8)");
        for (int c : new int[] {1, -1, LEAST, GREATEST, 256, 65536}) {
            b.x.run(0, 0, c, 0, false);
            due.is("TEST of " + c, b.x.value(), 7);
        }
        b.x.run(0, 0, 0, 0, false);
        due.is("TEST of 0", b.x.value(), 8);
    }

    private static void steps(String body, int want) {
        Bench b = bench();
        b.method(0, "a", "", INT, "(seq " + body + " 0)");
        b.x.run(2, 0, 0, 0, false);
        due.is(body + ", steps", b.x.steps() - 2, want);
    }

    private static void stepsOfNodes() {
        steps("1", 1);
        steps("a", 1);
        steps("this", 1);
        steps("new1", 1);
        steps("(field a this)", 2);
        steps("(put a this 1)", 3);
        steps("(let d 1 d)", 3);
        steps("(set a 1)", 2);
        steps("(call f this 1 2)", 5);
        steps("(seq 1 2)", 3);
        steps("(test 1 2 (+ 3 4))", 3);
        steps("(test 0 2 (+ 3 4))", 5);
        steps("(+ 1 2)", 3);
        steps("(guard 1 (+ 2 3))", 2);
        steps("(guard (raise 1) (+ 2 3))", 6);
        steps("(guard (field a c) 1)", 4);
        steps("(guard (+ (raise 1) (+ 1 2)) 1)", 5);
        Bench b = bench();
        b.method(0, "a", "", INT, "(+ (raise 1) (+ 2 3))");
        b.x.run(2, 0, 0, 0, false);
        due.is("what is not found is no step", b.x.steps(), 3);
    }

    /** The text of a node that takes so many steps, with a parameter p. */
    private static String pad(int steps) {
        if (steps == 1) return "1";
        return steps % 2 == 0 ? "(set p " + pad(steps - 1) + ")" : "(+ 1 " + pad(steps - 2) + ")";
    }

    /** Method 0 takes 10 steps, method 1 49, and 52 with its CALL, and method 2 155, and 158 with its CALL. */
    private static Bench padded() {
        Bench b = new Bench(-1);
        b.x.fieldOf(0, 2, 0);
        b.x.method(0, 0, 15, -1, INT, b.tell(pad(10)));
        int many = b.tell(pad(49)), call = b.tell("(call b this 1)");
        b.x.method(0, 1, 15, -1, INT, many);
        b.x.method(0, 2, 15, -1, INT, b.x.two(2, call, b.x.two(2, call, many)));
        return b;
    }

    /** A method p that takes so many steps, if the node that is told as text, at its end, takes so many of its own. */
    private static Bench taking(int steps, String end, int own) {
        Bench b = padded();
        int c = b.tell("(call c this 1)");
        int two = b.x.two(0, c, b.x.two(0, c, b.x.two(0, c, b.tell(end))));
        b.x.method(0, 15, 15, -1, INT, b.x.two(0, b.tell(pad(steps - 3 * 158 - 4 - own)), two));
        return b;
    }

    private static void fiveHundred() {
        Bench b = padded();
        due.is("run", b.x.run(2, 0, 0, 0, false), NUMBER);
        due.is("steps of c", b.x.steps(), 155);
        for (int n = 480; n < 501; n++) {
            Bench x = taking(n, "7", 1);
            due.is(n + " steps", x.x.run(3, 0, 0, 0, false), NUMBER);
            due.is("value", x.x.value(), 7);
            due.is("steps", x.x.steps(), n);
        }
        for (int n = 501; n < 510; n++) {
            Bench x = taking(n, "7", 1);
            due.is(n + " steps", x.x.run(3, 0, 0, 0, false), ENDLESS);
            due.is("value", x.x.value(), 0);
            due.is("500 are told", x.x.steps(), 500);
        }
    }

    private static void atEnd(int steps, String end, int own, int how, int value) {
        Bench b = taking(steps, end, own);
        due.is(end + " at " + steps, b.x.run(3, 0, 0, 0, false), how);
        due.is(end + " at " + steps + ", value", b.x.value(), value);
        due.is(end + " at " + steps + ", steps", b.x.steps(), Math.min(steps, 500));
    }

    private static void waysToEndAt500() {
        atEnd(500, "(raise 5)", 2, RAISED, 5);
        atEnd(501, "(raise 5)", 2, ENDLESS, 0);
        atEnd(500, "(seq (field c c) 1)", 3, LOST, 0);
        atEnd(501, "(seq (field c c) 1)", 3, ENDLESS, 0);
        atEnd(500, "(guard (raise 5) 6)", 4, NUMBER, 6);
        atEnd(501, "(guard (raise 5) 6)", 4, ENDLESS, 0);
        atEnd(502, "(guard (raise 5) 6)", 4, ENDLESS, 0);
        // A GUARD does not hold it, nor any number of these.
        atEnd(501, "(guard (raise (+ 1 2)) 6)", 6, ENDLESS, 0);
        atEnd(502, "(guard (guard (raise (+ 1 2)) 6) 7)", 7, ENDLESS, 0);
        atEnd(500, "(call a this 1)", 13, NUMBER, 5);
        atEnd(501, "(call a this 1)", 13, ENDLESS, 0);
    }

    private static void manyObjects() {
        Bench b = new Bench(-1, 0);
        b.x.fieldOf(0, 0, INT);
        b.x.fieldOf(0, 15, 0);
        StringBuilder seqs = new StringBuilder();
        for (int i = 0; i < 29; i++) seqs.append("(seq new1 ");
        b.method(0, "a", "", 0, seqs + "this" + ")".repeat(29));
        due.is("made", b.x.run(0, 0, 0, 0, false), OBJECT);
        due.is("steps", b.x.steps(), 59);
        b.method(0, "b", "", INT, "(seq (set a 5) (seq (set p this) (+ (call c this) (+ a (field a p)))))");
        b.method(0, "c", "", INT, "(seq (call a this) (seq (call a this) (seq (call a this) (seq (call a this) (seq (call a this) (seq (call a this) (field a (call a this))))))))");
        due.is("with many others, its fields are its own", b.x.run(1, 0, 0, 0, false), NUMBER);
        due.is("value", b.x.value(), 15);
        due.is("steps", b.x.steps(), 13 + 7 + 7 * 61);
        Bench c = new Bench(-1);
        c.method(0, "a", "", 0, "(seq new0 (seq new0 (seq new0 (seq new0 (seq new0 (call a this))))))");
        due.is("without an end", c.x.run(0, 0, 0, 0, false), ENDLESS);
        due.is("steps, at 20 methods", c.x.steps(), 240);
        Bench d = new Bench(-1);
        String made = "(seq new0 ".repeat(27);
        d.method(0, "a", "", 0, made + "(call a this)" + ")".repeat(27));
        due.is("without an end, at 500 steps", d.x.run(0, 0, 0, 0, false), ENDLESS);
        due.is("steps", d.x.steps(), 500);
    }

    private static void twentyMethods() {
        Bench b = new Bench(-1);
        b.x.fieldOf(0, 5, 0);
        b.method(0, "a", "a-", INT, "(test a (call a this (- a 1)) 6)");
        b.method(0, "b", "a-", INT, "(test a (call b this (- a 1)) (raise 7))");
        b.method(0, "c", "a-", INT, "(guard (call b this a) 8)");
        b.method(0, "d", "a-", INT, "(test a (call d this (- a 1)) (call a f 0))");
        b.method(0, "e", "a-", INT, "(guard (call a this a) 8)");
        b.method(0, "g", "a-", INT, "(test a (guard (call g this (- a 1)) 5) (call a this 0))");
        int[][] want = {{0, 18, NUMBER, 6}, {0, 19, NUMBER, 6}, {0, 20, ENDLESS, 0}, {0, 21, ENDLESS, 0}, {1, 19, RAISED, 7}, {1, 20, ENDLESS, 0},
            {2, 18, NUMBER, 8}, {2, 19, ENDLESS, 0}, {3, 19, LOST, 0}, {3, 20, ENDLESS, 0}, {4, 18, NUMBER, 6}, {4, 19, ENDLESS, 0},
            {5, 18, NUMBER, 6}, {5, 19, ENDLESS, 0}};
        for (int[] w : want) {
            due.is("method " + w[0] + " of " + w[1], b.x.run(w[0], 0, w[1], 0, false), w[2]);
            due.is("value", b.x.value(), w[3]);
        }
        due.is("the 21st", b.x.run(0, 0, 20, 0, false), ENDLESS);
        due.is("the steps that were taken", b.x.steps(), 140);
    }

    private static void twentyOfOthers() {
        Bench b = new Bench(-1, 0);
        b.method(0, "a", "a-", INT, "(test a (call b new1 (- a 1)) 1)");
        b.method(0, "b", "a-", INT, "(test a (call a this (- a 1)) 2)");
        b.method(1, "b", "a-", INT, "(test a (call a new0 (- a 1)) 3)");
        b.method(0, "c", "a-", INT, "(+ (call a this a) (+ (call a this a) (call a this a)))");
        b.method(0, "d", "a-", INT, "(call e this (call a this a))");
        b.method(0, "e", "a-", INT, "a");
        int[][] want = {{0, 19, NUMBER, 3}, {0, 20, ENDLESS, 0}, {3, 18, NUMBER, 3}, {3, 19, ENDLESS, 0}, {4, 18, NUMBER, 1}, {4, 19, ENDLESS, 0}};
        for (int[] w : want) {
            due.is("method " + w[0] + " of " + w[1], b.x.run(w[0], 0, w[1], 0, false), w[2]);
            due.is("value", b.x.value(), w[3]);
        }
        // Those that have ended are not within one another: 60 one after the other.
        Bench c = new Bench(-1);
        c.method(0, "a", "", INT, "1");
        int call = c.tell("(call a this)"), ten = call;
        for (int i = 1; i < 10; i++) ten = c.x.two(2, ten, call);
        c.x.method(0, 1, -1, -1, INT, ten);
        c.method(0, "c", "", INT, "(+ (call b this) (+ (call b this) (+ (call b this) (+ (call b this) (+ (call b this) (call b this))))))");
        due.is("60 one after the other", c.x.run(2, 0, 0, 0, false), NUMBER);
        due.is("value", c.x.value(), 60);
        Bench d = new Bench(-1);
        d.method(0, "a", "a-", INT, "(guard (test a (call a this (- a 1)) (raise 1)) (raise (+ a 2)))");
        due.is("what was raised has ended them", d.x.run(0, 0, 19, 0, false), RAISED);
        due.is("value", d.x.value(), 21);
    }

    private static void locals() {
        Bench b = new Bench(-1);
        // 29 LETs within one another, and a parameter: each has a value of its own.
        StringBuilder lets = new StringBuilder();
        for (int i = 0; i < 12; i++) lets.append("(let ").append((char) ('c' + i)).append(" (+ ").append((char) ('b' + i)).append(" 1) ");
        b.method(0, "a", "a- b-", INT, lets + "(+ n a)" + ")".repeat(12));
        due.is("run", b.x.run(0, 0, 1000, 5, false), NUMBER);
        due.is("value", b.x.value(), 1017);
        b.method(0, "b", "a-", INT, "(let b 1 (test a (seq (call b this (- a 1)) (set b (+ b a))) (set b 50)))");
        due.is("those of another run of it are others", b.x.run(1, 0, 3, 0, false), NUMBER);
        due.is("value", b.x.value(), 4);
        b.method(0, "c", "a-", INT, "(+ (seq (set a (+ a 1)) a) (seq (set a (* a 2)) a))");
        due.is("a parameter that is set", b.x.run(2, 0, 3, 0, false), NUMBER);
        due.is("value", b.x.value(), 12);
        b.method(0, "d", "a-", INT, "(let b a (seq (set a 7) b))");
        due.is("a LET has what its v gave", b.x.run(3, 0, 3, 0, false), NUMBER);
        due.is("value", b.x.value(), 3);
        b.method(0, "e", "a-", INT, "(let a (+ a 1) (let a (* a 2) (seq (set a (- a 3)) a)))");
        due.is("one within another of its name", b.x.run(4, 0, 3, 0, false), NUMBER);
        due.is("value", b.x.value(), 5);
    }

    private static void beginning() {
        Bench b = new Bench(-1, 0);
        b.x.fieldOf(0, 0, INT);
        b.method(0, "a", "a-", INT, "(+ (call b this a) (field a this))");
        b.method(0, "b", "a-", INT, "(set a (+ a 1))");
        b.method(1, "b", "a-", INT, "(put a this (* a 2))");
        b.x.begin();
        int[] was = {b.x.run(0, 0, 5, 0, true), b.x.value(), b.x.steps(), b.x.run(0, 1, 5, 0, true), b.x.value(), b.x.steps()};
        due.is("value", was[1], 6);
        due.is("value, below", was[4], 20);
        due.is("renamed", b.x.renameField(0, 0, 7), 2);
        due.is("renamed", b.x.renameMethod(2, 5), 1);
        due.is("with one more", b.x.addParameter(1, 4), 1);
        due.is("behind methods", b.x.enclose(0, 7, 8, 9), 0);
        due.is("extracted", b.x.extract(0, 5, 10), 501);
        due.is("run of now", b.x.run(0, 1, 5, 0, false), NUMBER);
        due.is("value of now", b.x.value(), 20);
        int[] is = {b.x.run(0, 0, 5, 0, true), b.x.value(), b.x.steps(), b.x.run(0, 1, 5, 0, true), b.x.value(), b.x.steps()};
        for (int i = 0; i < 6; i++) due.is("that of the beginning is as it was", is[i], was[i]);
        due.outOfBounds("it has no method that was added", () -> b.x.run(5, 0, 0, 0, true));
        due.is("gone", b.x.removeDead(4), 5);
        due.is("it has all that are gone", b.x.run(2, 1, 5, 0, true), NUMBER);
        due.is("value", b.x.value(), 10);
        b.x.begin();
        due.outOfBounds("another beginning", () -> b.x.run(2, 1, 5, 0, true));
    }
}
