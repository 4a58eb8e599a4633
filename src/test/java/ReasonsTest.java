/** Promises 18 to 27: each reason, just inside and just outside; which goes first; and that what is refused changes nothing. */
public final class ReasonsTest {
    private static final Due due = new Due("reasons");
    private static final Refusals calls = new Refusals(due);
    private static final int INT = SmithyBench.INT;
    private static final int CLASH = SmithyBench.CLASH, CAPTURE = SmithyBench.CAPTURE, OVERRIDDEN = SmithyBench.OVERRIDDEN, RECURSIVE = SmithyBench.RECURSIVE;
    private static final int OUTPUT = SmithyBench.OUTPUT, TOO_MANY = SmithyBench.TOO_MANY, EFFECT = SmithyBench.EFFECT, INVISIBLE = SmithyBench.INVISIBLE;
    private static final int USED = SmithyBench.USED, NOT_THAT = SmithyBench.NOT_THAT, CHANGES = SmithyBench.CHANGES;

    public static void main(String[] arguments) {
        due.part("to rename a method, CLASH", ReasonsTest::renameMethodClash);
        due.part("to rename a field, CLASH", ReasonsTest::renameFieldClash);
        due.part("to rename a field, TOO_MANY", ReasonsTest::renameFieldTooMany);
        due.part("to rename a local, NOT_THAT", ReasonsTest::renameLocalNotThat);
        due.part("to rename a local, CLASH", ReasonsTest::renameLocalClash);
        due.part("to rename a local, CAPTURE", ReasonsTest::renameLocalCapture);
        due.part("to rename a local, TOO_MANY", ReasonsTest::renameLocalTooMany);
        due.part("to inline, NOT_THAT", ReasonsTest::inlineNotThat);
        due.part("to inline, OVERRIDDEN", ReasonsTest::inlineOverridden);
        due.part("to inline, RECURSIVE", ReasonsTest::inlineRecursive);
        due.part("to inline, no fresh name", ReasonsTest::inlineNoFreshName);
        due.part("to inline, INVISIBLE", ReasonsTest::inlineInvisible);
        due.part("to inline, TOO_MANY", ReasonsTest::inlineTooMany);
        due.part("to inline, which goes first", ReasonsTest::inlineOrder);
        due.part("to extract, NOT_THAT", ReasonsTest::extractNotThat);
        due.part("to extract, OUTPUT", ReasonsTest::extractOutput);
        due.part("to extract, TOO_MANY locals", ReasonsTest::extractLocals);
        due.part("to extract, CLASH", ReasonsTest::extractClash);
        due.part("to extract, TOO_MANY", ReasonsTest::extractTooMany);
        due.part("to extract, which goes first", ReasonsTest::extractOrder);
        due.part("to add a parameter", ReasonsTest::addParameter);
        due.part("to add a parameter, TOO_MANY", ReasonsTest::addParameterTooMany);
        due.part("to drop a parameter, USED", ReasonsTest::dropUsed);
        due.part("to drop a parameter, CLASH and EFFECT", ReasonsTest::dropClashAndEffect);
        due.part("to pull a method up", ReasonsTest::pullUp);
        due.part("to pull a method up, INVISIBLE", ReasonsTest::pullUpInvisible);
        due.part("to push a method down", ReasonsTest::pushDown);
        due.part("to push a method down, TOO_MANY and INVISIBLE", ReasonsTest::pushDownTooMany);
        due.part("to push a method down, which goes first", ReasonsTest::pushDownOrder);
        due.part("to put a field behind methods", ReasonsTest::enclose);
        due.part("to put a field behind methods, TOO_MANY", ReasonsTest::encloseTooMany);
        due.part("which exception, and which reason", ReasonsTest::exceptionsGoFirst);
        due.end();
    }

    /** Methods without parameters that answer 1, told as class and name; classes are told by their parents. */
    private static Bench named(int[] parents, String... methods) {
        Bench b = new Bench(parents);
        int one = b.x.number(1);
        for (String m : methods) b.x.method(m.charAt(0) - '0', m.charAt(1) - 'a', m.length() > 2 ? 14 : -1, m.length() > 3 ? 15 : -1, INT, one);
        return b;
    }

    private static final int[] CHAIN = {-1, 0, 1, 2, 3, 4}, FORK = {-1, 0, 0, 1, -1};

    private static void renameMethodClash() {
        String[] clashes = {"2a 2b", "2a 1b", "2a 0b", "2a 3b", "2a 5b", "0a 5b", "5a 0b", "2a- 2b-", "2a-- 0b--"};
        for (String c : clashes) calls.refused("in a chain, " + c, () -> named(CHAIN, c.split(" ")), x -> x.renameMethod(0, 1), CLASH);
        String[] free = {"2a 2b-", "2a 1b--", "2a- 2b", "2a- 0b--", "2a-- 3b-", "2a 2c", "2a"};
        for (String f : free) due.is("in a chain, " + f, named(CHAIN, f.split(" ")).x.renameMethod(0, 1), 0);
        // 1 and 2 are below 0, 3 is below 1, and 4 is by itself.
        String[] over = {"1a 0a 2b", "3a 0a 2b", "1a 0a 2a 3b", "2a 3a 0a 1b", "3a 1a 0b"};
        for (String c : over) calls.refused("over others of the family, " + c, () -> named(FORK, c.split(" ")), x -> x.renameMethod(0, 1), CLASH);
        String[] beside = {"1a 2b", "3a 2b", "0a 4b", "4a 0b 1b 2b 3b", "1a 0a- 2b", "1a 2a 4b", "3a 0c 2b"};
        for (String f : beside) due.is("beside, " + f, named(FORK, f.split(" ")).x.renameMethod(0, 1), 0);
        Bench gone = named(FORK, "0b", "1a");
        due.is("gone", gone.x.removeDead(1), 1);
        due.is("the name of one that is gone", gone.x.renameMethod(1, 1), 0);
        due.is("and of one that has another name now", gone.x.renameMethod(1, 0), 0);
    }

    /** A field a of class 2 and a field b of another one. */
    private static Bench fields(int[] parents, int other) {
        Bench b = new Bench(parents);
        b.x.fieldOf(2, 0, INT);
        b.x.fieldOf(other, 1, INT);
        b.method(2, "a", "", INT, "(+ a (field a this))");
        return b;
    }

    private static void renameFieldClash() {
        for (int other = 0; other < 6; other++) {
            int c = other;
            calls.refused("a field of " + c, () -> fields(CHAIN, c), x -> x.renameField(2, 0, 1), CLASH);
        }
        calls.refused("above both", () -> fields(FORK, 0), x -> x.renameField(2, 0, 1), CLASH);
        due.is("beside", fields(FORK, 1).x.renameField(2, 0, 1), 2);
        due.is("below one beside", fields(FORK, 3).x.renameField(2, 0, 1), 2);
        due.is("by itself", fields(FORK, 4).x.renameField(2, 0, 1), 2);
        // What has the name of a local is no field: that is made plain.
        Bench b = new Bench(-1);
        b.x.fieldOf(0, 0, INT);
        b.method(0, "a", "b-", INT, "(+ a b)");
        due.is("a parameter", b.x.renameField(0, 0, 1), 1);
        due.body(b.x, 0, "(+ (field b this) b)");
    }

    /** Sums of VARs of the field a, and as many RAISEs around them as make so many nodes; method b is just a VAR of it. */
    private static Bench plain(String parameters, int vars, int raises) {
        Bench b = new Bench(-1, 0);
        b.x.fieldOf(0, 0, INT);
        b.x.fieldOf(1, 2, INT);
        int v = b.x.var(0), node = v;
        for (int i = 1; i < vars; i++) node = b.x.two(2, node, v);
        for (int i = 0; i < raises; i++) node = b.x.raise(node);
        b.x.method(0, 0, parameters.isEmpty() ? -1 : 1, -1, INT, node);
        b.x.method(1, 1, -1, -1, INT, v);
        return b;
    }

    private static void renameFieldTooMany() {
        due.is("60 nodes", plain("b", 20, 1).x.renameField(0, 0, 1), 21);
        calls.refused("61 nodes", () -> plain("b", 20, 2), x -> x.renameField(0, 0, 1), TOO_MANY);
        due.is("none is made plain", plain("", 20, 2).x.renameField(0, 0, 1), 21);
        due.is("60 as before", plain("", 30, 1).x.renameField(0, 0, 1), 31);
        calls.refused("CLASH goes ahead", () -> plain("b", 20, 2), x -> x.renameField(0, 0, 2), CLASH);
        // A SET and its VAR come to two more; the body with them is the last one.
        calls.refused("in the last of 24", ReasonsTest::lastOf24, x -> x.renameField(0, 0, 1), TOO_MANY);
    }

    private static Bench lastOf24() {
        Bench b = new Bench(-1, -1);
        b.x.fieldOf(0, 0, INT);
        int v = b.x.var(0), node = v;
        for (int m = 0; m < 23; m++) b.x.method(m / 16, m % 16, -1, -1, INT, m < 16 ? v : b.x.number(m));
        for (int i = 0; i < 30; i++) node = b.x.let(0, node, -1);
        for (int i = 0; i < 29; i++) node = b.x.raise(node);
        b.x.method(0, 0, 1, -1, INT, node);
        return b;
    }

    /** A parameter a, a LET c at 0, and one node of each other kind behind it. */
    private static Bench kinds() {
        Bench b = new Bench(-1);
        b.x.fieldOf(0, 4, INT);
        b.method(0, "a", "a- b-", INT, "(let c 1 (seq (set c a) (seq (put e this (field e new0)) (test c (guard (raise 1) 2) (+ (call a this a b) e)))))");
        return b;
    }

    private static void renameLocalNotThat() {
        int size = kinds().x.tell(0, 6);
        due.is("nodes", size, 22);
        for (int place = 1; place < size; place++) {
            int p = place;
            calls.refused("the place " + p, ReasonsTest::kinds, x -> x.renameLocal(0, p, 9), NOT_THAT);
        }
        due.is("a LET", kinds().x.renameLocal(0, 0, 9), 2);
        calls.refused("with the name of a parameter", ReasonsTest::kinds, x -> x.renameLocal(0, 3, 1), NOT_THAT);
    }

    private static Bench body(String parameters, String body) {
        Bench b = new Bench(-1, 0);
        b.x.fieldOf(0, 0, INT);
        b.x.fieldOf(0, 1, INT);
        b.method(1, "f", parameters, INT, body);
        return b;
    }

    private static void renameLocalClash() {
        calls.refused("the second one's name", () -> body("c- d-", "(+ c d)"), x -> x.renameLocal(0, -1, 3), CLASH);
        calls.refused("the first one's name", () -> body("c- d-", "(+ c d)"), x -> x.renameLocal(0, -2, 2), CLASH);
        calls.refused("though it is not used", () -> body("c- d-", "1"), x -> x.renameLocal(0, -1, 3), CLASH);
        calls.refused("of another type", () -> body("c- d0", "1"), x -> x.renameLocal(0, -1, 3), CLASH);
        due.is("a LET that gets a parameter's name", body("c-", "(let d 1 d)").x.renameLocal(0, 0, 2), 1);
        due.is("a parameter that gets a LET's name", body("c-", "(+ c (let d 1 d))").x.renameLocal(0, -1, 3), 1);
        due.is("a parameter that gets a field's name", body("c-", "(+ c b)").x.renameLocal(0, -1, 1), 1);
        // CLASH goes ahead of CAPTURE and of TOO_MANY.
        calls.refused("ahead of CAPTURE", () -> body("c- d-", "(let d 1 c)"), x -> x.renameLocal(0, -1, 3), CLASH);
    }

    private static void renameLocalCapture() {
        String[][] captured = {
            // Of the new name c, and bound to what is around.
            {"c-", "(let d 1 c)"}, {"c-", "(let d 1 (set c 2))"}, {"c- e-", "(let d 1 (let f 2 (+ e c)))"}, {"e- c-", "(let d 1 (+ d (raise c)))"},
            {"c-", "(let d 1 (let c c 3))"},
            // Bound to itself, in the b of a LET of the new name.
            {"", "(let d 1 (let c 2 d))"}, {"", "(let d 1 (let c 2 (set d 3)))"}, {"", "(let d 1 (let e 2 (let c 3 (let f 4 (+ 1 d)))))"},
            {"", "(let d 1 (let c 1 (let c 2 d)))"}, {"", "(let d 1 (+ d (let c 2 (let e d 3))))"}};
        for (String[] c : captured) calls.refused(c[1] + " of " + c[0], () -> body(c[0], c[1]), x -> x.renameLocal(0, 0, 2), CAPTURE);
        calls.refused("of a LET around", () -> body("", "(let c 1 (let d 2 c))"), x -> x.renameLocal(0, 2, 2), CAPTURE);
        calls.refused("a SET of a LET around", () -> body("", "(let c 1 (let d 2 (set c 3)))"), x -> x.renameLocal(0, 2, 2), CAPTURE);
        calls.refused("of the outer one of two LETs around", () -> body("", "(let c 1 (let e c (let d 2 (+ e c))))"), x -> x.renameLocal(0, 4, 2), CAPTURE);
        calls.refused("a parameter, in the b of a LET", () -> body("d-", "(let c 1 d)"), x -> x.renameLocal(0, -1, 2), CAPTURE);
        calls.refused("a second parameter, set in the b of a LET", () -> body("e- d-", "(+ d (let c 1 (set d 2)))"), x -> x.renameLocal(0, -2, 2), CAPTURE);
        String[][] free = {
            {"c-", "(let d c d)", "(let c c c)"}, {"c-", "(let d 1 (let c 2 c))", "(let c 1 (let c 2 c))"}, {"c-", "(+ (let d 1 d) c)", "(+ (let c 1 c) c)"},
            {"", "(let d 1 (let c d c))", "(let c 1 (let c c c))"}, {"", "(let d 1 (+ d (let c 2 c)))", "(let c 1 (+ c (let c 2 c)))"},
            {"", "(let d 1 (let c 2 (let d 3 d)))", "(let c 1 (let c 2 (let d 3 d)))"}, {"", "(let d (let c 1 c) d)", "(let c (let c 1 c) c)"},
            {"c-", "(let d (set c 2) 3)", "(let c (set c 2) 3)"}};
        for (String[] f : free) {
            Bench b = body(f[0], f[1]);
            int place = f[1].startsWith("(+") ? 1 : 0;
            due.is(f[1], b.x.renameLocal(0, place, 2) < 0 ? -1 : 0, 0);
            due.body(b.x, 0, f[2]);
        }
        // Ahead of TOO_MANY, and where both would be plain.
        calls.refused("ahead of TOO_MANY", ReasonsTest::capturedAndLarge, x -> x.renameLocal(0, 0, 0), CAPTURE);
    }

    /** A LET c, a LET a within it that holds a VAR of c, and more VARs of the field a than can be made plain. */
    private static Bench capturedAndLarge() {
        Bench b = new Bench(-1);
        b.x.fieldOf(0, 0, INT);
        int v = b.x.var(0), sum = v;
        for (int i = 1; i < 25; i++) sum = b.x.two(2, sum, v);
        b.x.method(0, 0, -1, -1, INT, b.x.let(2, b.x.number(1), b.x.two(0, sum, b.tell("(let a 1 c)"))));
        return b;
    }

    private static Bench hidden(int vars, int raises, boolean isParameter) {
        Bench b = new Bench(-1);
        b.x.fieldOf(0, 0, INT);
        int v = b.x.var(0), node = v;
        for (int i = 1; i < vars; i++) node = b.x.two(2, node, v);
        for (int i = 0; i < raises; i++) node = b.x.raise(node);
        if (!isParameter) node = b.x.let(1, b.x.number(1), node);
        b.x.method(0, 0, isParameter ? 1 : -1, -1, INT, node);
        return b;
    }

    private static void renameLocalTooMany() {
        // n VARs are 2 n - 1 nodes, and n more when they are made plain; a LET and its v are 2 more.
        due.is("60 nodes, of a LET", hidden(19, 2, false).x.renameLocal(0, 0, 0), 0);
        calls.refused("61 nodes, of a LET", () -> hidden(19, 3, false), x -> x.renameLocal(0, 0, 0), TOO_MANY);
        due.is("60 nodes, of a parameter", hidden(20, 1, true).x.renameLocal(0, -1, 0), 0);
        calls.refused("61 nodes, of a parameter", () -> hidden(20, 2, true), x -> x.renameLocal(0, -1, 0), TOO_MANY);
        due.is("60 as before", hidden(30, 1, true).x.renameLocal(0, -1, 2), 0);
    }

    private static void inlineNotThat() {
        for (int place = 0; place < 22; place++) {
            int p = place;
            boolean isThat = kinds().x.node(0, p, 0) == 7;
            if (!isThat) calls.refused("the place " + p, ReasonsTest::kinds, x -> x.inline(0, p), NOT_THAT);
        }
        String[] others = {"new1", "(let b this b)", "(seq 1 this)", "(field c this)", "c", "(call e this)", "(test 1 this this)", "(guard this this)"};
        for (String r : others) calls.refused("a CALL of " + r, () -> calling(r), x -> x.inline(2, 0), NOT_THAT);
        Bench b = calling("(let b this (seq (call d this) b))");
        due.is("a CALL of THIS within the r of another one", b.x.inline(2, 4), 6);
        due.is("a CALL of THIS", calling("this").x.inline(2, 0), 1);
    }

    private static Bench calling(String r) {
        Bench b = new Bench(-1, 0);
        b.x.fieldOf(0, 2, 0);
        b.method(0, "d", "", INT, "1");
        b.method(0, "e", "", 0, "this");
        b.method(0, "f", "", INT, "(call d " + r + ")");
        return b;
    }

    /** Method 0 is a of class 0, and method 1, of a class, CALLs a of THIS; others are told as class and name. */
    private static Bench overridden(int[] parents, int of, String... others) {
        Bench b = new Bench(parents);
        int one = b.x.number(1);
        b.method(0, "a", "", INT, "2");
        b.method(of, "p", "", INT, "(call a this)");
        for (String m : others) b.x.method(m.charAt(0) - '0', m.charAt(1) - 'a', m.length() > 2 ? 14 : -1, -1, INT, one);
        return b;
    }

    private static void inlineOverridden() {
        for (int below = 1; below < 6; below++) {
            String m = below + "a";
            for (int of = 0; of < 6; of++) {
                int c = of;
                if (below > of) calls.refused(m + " below " + c, () -> overridden(CHAIN, c, m), x -> x.inline(1, 0), OVERRIDDEN);
                else due.is(m + " not below " + c, overridden(CHAIN, c, m).x.inline(1, 0), 1);
            }
        }
        due.is("with another number", overridden(CHAIN, 0, "1a-").x.inline(1, 0), 1);
        due.is("of another name", overridden(CHAIN, 0, "1b").x.inline(1, 0), 1);
        // 3 is below 1, and 2 beside it.
        due.is("beside", overridden(FORK, 1, "2a").x.inline(1, 0), 1);
        calls.refused("below that which is bound", () -> overridden(FORK, 1, "1a", "3a"), x -> x.inline(1, 0), OVERRIDDEN);
        due.is("the class itself has it", overridden(FORK, 1, "1a", "2a").x.inline(1, 0), 1);
        Bench swept = overridden(CHAIN, 0, "3a");
        swept.method(0, "o", "", INT, "(call p new0)");
        due.is("the one below is reached", swept.x.removeDead(3), 0);
    }

    /** Method 0 CALLs a of THIS; all bodies are told, as class, name and body. */
    private static Bench recursive(String... methods) {
        Bench b = new Bench(-1, 0, 0);
        b.method(0, "p", "", INT, "(call a this)");
        for (String m : methods) b.method(m.charAt(0) - '0', m.substring(1, 2), "", INT, m.substring(3));
        return b;
    }

    private static void inlineRecursive() {
        String[][] recursive = {
            {"0a (call a this)"}, {"0a (call a new0)"}, {"0a (test 0 (raise (call a this)) 1)"}, {"0a (call b this)", "0b (call a this)"},
            {"0a (call b this)", "0b (call c this)", "0c (call d this)", "0d (call a this)"}, {"0a (call b new0)", "0b 1", "1b (call a this)"},
            {"0a (call p this)"}};
        for (String[] r : recursive) calls.refused(String.join(", ", r), () -> recursive(r), x -> x.inline(0, 0), RECURSIVE);
        String[][] not = {
            {"0a 1"}, {"0a (call b this)", "0b (call b this)"}, {"0a (call b this)", "0b (call c this)", "0c (call b this)"},
            {"0a (call b new2)", "0b 1", "1b (call a this)"}, {"0a (call b new1)", "0b (call a this)", "1b 1"}, {"0a 1", "0b (call a this)"}};
        for (String[] n : not) due.is(String.join(", ", n), recursive(n).x.inline(0, 0), recursive(n).x.tell(1, 6));
        calls.refused("one that CALLs itself", () -> recursive("0a 1", "0b (call b this)"), x -> x.inline(2, 0), RECURSIVE);
        // That which CALLs need not be reached: p is reached from itself over a, and a is not.
        Bench b = new Bench(-1);
        b.method(0, "a", "", INT, "1");
        b.method(0, "p", "", INT, "(+ (call a this) (call p this))");
        due.is("the other one is recursive", b.x.inline(1, 1), 4);
    }

    private static final String LETTERS = "abcdefghijklmnop";

    /** A body in LETs of so many names, from a on. */
    private static String inLets(int names, String body) {
        StringBuilder text = new StringBuilder();
        for (int i = 0; i < names; i++) text.append("(let ").append(LETTERS.charAt(i)).append(" 1 ");
        return text + body + ")".repeat(names);
    }

    /** Method 1 has names a and so on, in LETs, and in these a CALL of method 0, whose name is the first of them. */
    private static Bench freshly(int names, String parameters, String body, String arguments) {
        Bench b = new Bench(-1);
        b.method(0, "a", parameters, INT, body);
        b.method(0, "p", "", INT, inLets(names, "(call a this" + arguments + ")"));
        return b;
    }

    private static void inlineNoFreshName() {
        due.is("none is needed", freshly(16, "", "7", "").x.inline(1, 32), 33);
        calls.refused("none for one", () -> freshly(16, "a-", "a", " 7"), x -> x.inline(1, 32), TOO_MANY);
        due.is("the last for one", freshly(15, "a-", "a", " 7").x.inline(1, 30), 33);
        calls.refused("none for the second one", () -> freshly(15, "a- b-", "a", " 7 8"), x -> x.inline(1, 30), TOO_MANY);
        calls.refused("none for both", () -> freshly(16, "a- b-", "a", " 7 8"), x -> x.inline(1, 32), TOO_MANY);
        Bench b = freshly(14, "a- b-", "(- a b)", " 7 8");
        due.is("the last two", b.x.inline(1, 28), 35);
        due.is("the first gets the lower", b.x.node(1, 28, 1), 14);
        due.is("the second gets the higher", b.x.node(1, 30, 1), 15);
        // The names of both methods count: those of parameters, and of nodes of each kind that has one.
        calls.refused("the last is a parameter of the other one", () -> freshly(15, "p-", "1", " 7"), x -> x.inline(1, 30), TOO_MANY);
        calls.refused("the last is in the body of the other one", () -> freshly(15, "a-", "(let p 1 a)", " 7"), x -> x.inline(1, 30), TOO_MANY);
        Bench c = freshly(15, "a-", "a", " 7");
        c.method(0, "b", "p-", INT, "(let p 1 p)");
        due.is("that of a third method does not", c.x.inline(1, 30), 33);
    }

    /** Method 0 is told, and method 1 CALLs it with arguments that are told; class 1 is below 0, and has method 2 that CALLs, too. */
    private static Bench visible(String parameters, int returns, String body, String arguments, int wanted) {
        Bench b = new Bench(-1, 0);
        b.x.fieldOf(0, 0, INT);
        b.x.fieldOf(0, 1, 0);
        b.method(0, "a", parameters, returns, body);
        b.method(0, "p", "", wanted, "(call a this" + arguments + ")");
        b.method(1, "o", "", wanted, "(call a this" + arguments + ")");
        return b;
    }

    private static void inlineInvisible() {
        calls.refused("SET of what the argument is above", () -> visible("c0", 0, "(set c new0)", " new1", 0), x -> x.inline(1, 0), INVISIBLE);
        due.is("SET of what it is", visible("c0", 0, "(set c new0)", " new0", 0).x.inline(1, 0), 4);
        due.is("SET of what is below", visible("c0", 0, "(set c new1)", " new0", 0).x.inline(1, 0), 4);
        calls.refused("an argument that is NEVER", () -> visible("c0", INT, "(field a c)", " (raise 1)", INT), x -> x.inline(1, 0), INVISIBLE);
        due.is("that is not needed", visible("c0", INT, "1", " (raise 1)", INT).x.inline(1, 0), 4);
        due.is("a number that is NEVER", visible("c-", INT, "(+ c 1)", " (raise 1)", INT).x.inline(1, 0), 6);
        calls.refused("SET of a number that is NEVER", () -> visible("c-", INT, "(set c 1)", " (raise 1)", INT), x -> x.inline(1, 0), INVISIBLE);
        calls.refused("THIS is lower", () -> visible("", 0, "(let c this (set c new0))", "", 0), x -> x.inline(2, 0), INVISIBLE);
        due.is("THIS is the same", visible("", 0, "(let c this (set c new0))", "", 0).x.inline(1, 0), 4);
        calls.refused("a second argument that is NEVER", () -> visible("c- d0", INT, "(field a d)", " 1 (raise 1)", INT), x -> x.inline(1, 0), INVISIBLE);
        // What the CALL gave had the type that is told: around it, another one may be needed.
        Bench b = new Bench(-1, 0);
        b.x.fieldOf(0, 0, INT);
        b.method(0, "a", "", 0, "(raise 1)");
        b.method(0, "p", "", INT, "(field a (call a this))");
        due.is("what is NEVER has no field", b.x.inline(1, 1), INVISIBLE);
        Bench c = new Bench(-1, 0);
        c.method(0, "a", "", 0, "new1");
        c.method(0, "p", "", 0, "(let c (call a this) (set c new0))");
        due.is("what is lower cannot be set", c.x.inline(1, 1), INVISIBLE);
        c.method(0, "o", "", 0, "(let c (call a this) (set c new1))");
        due.is("what is lower can be set to that", c.x.inline(2, 1), 4);
    }

    /** Method 0 has so many nodes, and method 1 has a CALL of it and so many others. */
    private static Bench sized(int nodes, int others) {
        Bench b = new Bench(-1);
        int one = b.x.number(1), first = one, second = b.tell("(call a this)");
        for (int i = 1; i < nodes; i++) first = b.x.raise(first);
        for (int i = 0; i < others; i++) second = b.x.raise(second);
        b.x.method(0, 0, -1, -1, INT, first);
        b.x.method(0, 1, -1, -1, INT, second);
        return b;
    }

    private static void inlineTooMany() {
        due.is("60 nodes", sized(50, 10).x.inline(1, 10), 60);
        calls.refused("61 nodes", () -> sized(50, 11), x -> x.inline(1, 11), TOO_MANY);
        due.is("60 nodes and none", sized(60, 0).x.inline(1, 0), 60);
        calls.refused("60 nodes and one", () -> sized(60, 1), x -> x.inline(1, 1), TOO_MANY);
        due.is("1 node and 58", sized(1, 58).x.inline(1, 58), 59);
        calls.refused("60 nodes and 58", () -> sized(60, 58), x -> x.inline(1, 58), TOO_MANY);
        // A LET for each parameter, and a THIS for each field that is made plain, count.
        due.is("two LETs", freshly(13, "a- b-", "(+ a b)", " 7 (+ 1 2)").x.inline(1, 26), 26 + 2 + 4 + 3);
        calls.refused("THIS for each of 30", ReasonsTest::manyMadePlain, x -> x.inline(1, 2), TOO_MANY);
    }

    private static Bench manyMadePlain() {
        Bench b = new Bench(-1);
        b.x.fieldOf(0, 2, INT);
        int v = b.x.var(2), sum = v;
        for (int i = 1; i < 30; i++) sum = b.x.two(2, sum, v);
        b.x.method(0, 0, -1, -1, INT, sum);
        b.method(0, "p", "", INT, "(let c 1 (call a this))");
        b.method(0, "o", "", INT, "(call a this)");
        due.is("where none is made plain", b.x.wrong(), -1);
        return b;
    }

    private static Bench order(int lets, String... methods) {
        Bench b = new Bench(-1, 0);
        b.x.fieldOf(0, 0, INT);
        b.method(0, "o", "", INT, inLets(lets, methods[0]));
        for (int i = 1; i < methods.length; i++) {
            String[] m = methods[i].split(", ");
            b.method(Integer.parseInt(m[0]), m[1], m[2].trim(), INT, m[3]);
        }
        return b;
    }

    private static void inlineOrder() {
        calls.refused("NOT_THAT ahead of OVERRIDDEN", () -> order(0, "(call a new0)", "0, a, , 1", "1, a, , 2"), x -> x.inline(0, 0), NOT_THAT);
        calls.refused("NOT_THAT ahead of RECURSIVE", () -> order(0, "(call a new0)", "0, a, , (call a this)"), x -> x.inline(0, 0), NOT_THAT);
        calls.refused("NOT_THAT ahead of no fresh name", () -> order(16, "(call a new0 1)", "0, a, a-, 1"), x -> x.inline(0, 32), NOT_THAT);
        calls.refused("OVERRIDDEN ahead of RECURSIVE", () -> order(0, "(call a this)", "0, a, , (call a this)", "1, a, , 1"), x -> x.inline(0, 0), OVERRIDDEN);
        calls.refused("OVERRIDDEN ahead of no fresh name", () -> order(16, "(call a this 1)", "0, a, a-, 1", "1, a, a-, 1"), x -> x.inline(0, 32), OVERRIDDEN);
        calls.refused("OVERRIDDEN ahead of INVISIBLE", () -> order(0, "(call a this (raise 1))", "0, a, a0, (field a a)", "1, a, a0, 1"), x -> x.inline(0, 0), OVERRIDDEN);
        calls.refused("RECURSIVE ahead of no fresh name", () -> order(16, "(call a this 1)", "0, a, a-, (call a this a)"), x -> x.inline(0, 32), RECURSIVE);
        calls.refused("RECURSIVE ahead of INVISIBLE", () -> order(0, "(call a this (raise 1))", "0, a, a0, (call a this (seq (field a a) a))"), x -> x.inline(0, 0), RECURSIVE);
        calls.refused("no fresh name ahead of INVISIBLE", () -> order(16, "(call a this (raise 1))", "0, a, a0, (field a a)"), x -> x.inline(0, 32), TOO_MANY);
        calls.refused("INVISIBLE with one", () -> order(15, "(call a this (raise 1))", "0, a, a0, (field a a)"), x -> x.inline(0, 30), INVISIBLE);
        String sum = "(+ 1 ".repeat(20) + "1" + ")".repeat(20);
        calls.refused("INVISIBLE ahead of 61 nodes", () -> order(10, "(call a this (raise 1))", "0, a, k0, (+ " + sum + " (field a k))"), x -> x.inline(0, 20), INVISIBLE);
        calls.refused("61 nodes", () -> order(10, "(call a this 1)", "0, a, k-, (+ " + sum + " k)"), x -> x.inline(0, 20), TOO_MANY);
        calls.refused("RECURSIVE ahead of 61 nodes", () -> order(10, "(call a this 1)", "0, a, k-, (+ " + sum + " (call a this k))"), x -> x.inline(0, 20), RECURSIVE);
    }

    /** A body in a method a of class 1, with parameters c and d and an object e; others are told as class and name. */
    private static Bench extracted(String body, String... others) {
        Bench b = new Bench(-1, 0, 1, 0);
        b.x.fieldOf(0, 0, INT);
        b.x.fieldOf(1, 1, 0);
        b.method(1, "a", "c- d-", INT, body);
        int one = b.x.number(1);
        for (String m : others) b.x.method(m.charAt(0) - '0', m.charAt(1) - 'a', m.length() > 2 ? 14 : -1, m.length() > 3 ? 15 : -1, INT, one);
        return b;
    }

    private static void extractNotThat() {
        String[] nevers = {
            "(raise 1)", "(raise (raise 1))", "(seq 1 (raise 2))", "(let e 1 (raise e))", "(test 1 (raise 1) (raise 2))", "(guard (raise 1) (raise 2))",
            "(let e (raise 1) e)"};
        for (String n : nevers) calls.refused(n, () -> extracted(n), x -> x.extract(0, 0, 9), NOT_THAT);
        String[] others = {"1", "(seq (raise 1) 2)", "(let e (raise 1) 2)", "(test (raise 1) 2 3)", "(guard (raise 1) 2)", "(test 1 (raise 1) 2)", "(+ 1 (raise 2))", "(set a (raise 1))"};
        for (String o : others) due.is(o, extracted(o).x.extract(0, 0, 9), 101);
    }

    private static void extractOutput() {
        calls.refused("SET of a parameter", () -> extracted("(set c 1)"), x -> x.extract(0, 0, 9), OUTPUT);
        calls.refused("SET of the second parameter", () -> extracted("(+ c (set d 1))"), x -> x.extract(0, 0, 9), OUTPUT);
        calls.refused("SET of a LET around", () -> extracted("(let e 1 (set e 2))"), x -> x.extract(0, 2, 9), OUTPUT);
        calls.refused("SET deep in it", () -> extracted("(let e 1 (+ 1 (let f 2 (raise (set e f)))))"), x -> x.extract(0, 2, 9), OUTPUT);
        calls.refused("SET in the v of a LET of its name", () -> extracted("(let e 1 (let e (set e 2) 3))"), x -> x.extract(0, 2, 9), OUTPUT);
        due.is("SET of a LET within", extracted("(let e 1 (set e 2))").x.extract(0, 0, 9), 101);
        due.is("SET of a LET within, that hides a parameter", extracted("(let c 1 (set c 2))").x.extract(0, 0, 9), 101);
        due.is("SET of a field", extracted("(set a 2)").x.extract(0, 0, 9), 101);
        due.is("PUT", extracted("(put a this c)").x.extract(0, 0, 9), 101);
        due.is("the v of a SET", extracted("(set c (+ 1 2))").x.extract(0, 1, 9), 101);
        due.is("a VAR beside a SET", extracted("(seq (set c 1) (+ c 1))").x.extract(0, 3, 9), 101);
    }

    private static void extractLocals() {
        String[] three = {"(let e 1 (+ c (+ d e)))", "(let e 1 (+ (+ e d) (+ c e)))", "(let e 1 (+ e (let f 2 (+ (+ c f) d))))"};
        for (String t : three) calls.refused(t, () -> extracted(t), x -> x.extract(0, 2, 9), TOO_MANY);
        due.is("two", extracted("(let e 1 (+ c (+ d c)))").x.extract(0, 2, 9), 101);
        due.is("two, of three", extracted("(let e 1 (+ e (+ d e)))").x.extract(0, 2, 9), 101);
        due.is("two, and one within", extracted("(let e 1 (+ e (let f 2 (+ d f))))").x.extract(0, 2, 9), 101);
        due.is("two, and a field", extracted("(let e 1 (+ e (+ d a)))").x.extract(0, 2, 9), 101);
        calls.refused("four", () -> extracted("(let e 1 (let f 2 (+ (+ c d) (+ e f))))"), x -> x.extract(0, 4, 9), TOO_MANY);
        due.is("all four are within but two", extracted("(let e 1 (let f 2 (+ (+ c d) (+ e f))))").x.extract(0, 0, 9), 101);
        // Two LETs of one name are two locals, but none hides the other in what is taken out.
        due.is("one, whose name another one has", extracted("(let c c (+ c (let c c c)))").x.extract(0, 2, 9), 101);
    }

    private static void extractClash() {
        String[][] clashes = {{"1 ", "1j"}, {"1 ", "0j"}, {"1 ", "2j"}, {"c", "1j-"}, {"c", "0j-"}, {"c", "2j-"}, {"(+ c d)", "1j--"}, {"(+ c d)", "0j--"}, {"(+ c d)", "2j--"}};
        for (String[] c : clashes) calls.refused(c[0] + " with " + c[1], () -> extracted(c[0].trim(), c[1]), x -> x.extract(0, 0, 9), CLASH);
        String[][] free = {{"1", "1j-"}, {"1", "1j--"}, {"1", "3j"}, {"c", "1j"}, {"c", "3j-"}, {"c", "0j--"}, {"(+ c d)", "3j--"}, {"(+ c d)", "2j-"}, {"(+ c d)", "1k--"}};
        for (String[] f : free) due.is(f[0] + " with " + f[1], extracted(f[0], f[1]).x.extract(0, 0, 9) / 100, 2);
        calls.refused("its own name, with two", () -> extracted("(+ c d)"), x -> x.extract(0, 0, 0), CLASH);
        due.is("its own name, with one", extracted("(+ c d)").x.extract(0, 1, 0), 102);
    }

    /** So many methods in all; the first is a sum of a NUMBER so many times, in so many RAISEs. */
    private static Bench repeated(int methods, int times, int raises) {
        Bench b = new Bench(-1, -1);
        int one = b.x.number(1), sum = one;
        for (int i = 1; i < times; i++) sum = b.x.two(2, sum, one);
        for (int i = 0; i < raises; i++) sum = b.x.raise(sum);
        b.x.method(0, 0, -1, -1, INT, sum);
        for (int m = 1; m < methods; m++) b.x.method(m / 13, m % 13, -1, -1, INT, b.tell("(+ 4 5)"));
        return b;
    }

    private static void extractTooMany() {
        // Each of n NUMBERs comes to a CALL and THIS: 2 n - 1 nodes to 3 n - 1.
        due.is("60 nodes", repeated(1, 20, 1).x.extract(0, 20, 14), 120);
        calls.refused("61 nodes", () -> repeated(1, 20, 2), x -> x.extract(0, 21, 14), TOO_MANY);
        due.is("the sum alone", repeated(1, 20, 2).x.extract(0, 2, 14), 101);
        due.is("a 24th method", repeated(23, 1, 0).x.extract(0, 0, 14), 2301);
        calls.refused("a 25th method", () -> repeated(24, 1, 0), x -> x.extract(0, 0, 14), TOO_MANY);
        calls.refused("61 nodes in a method ahead", ReasonsTest::otherTooLarge, x -> x.extract(1, 0, 14), TOO_MANY);
        due.is("61 nodes in a method of another class", otherTooLarge().x.extract(2, 0, 14), 301);
    }

    private static Bench otherTooLarge() {
        Bench b = new Bench(-1, 0);
        int v = b.x.var(0), sum = v;
        for (int i = 1; i < 16; i++) sum = b.x.two(2, sum, v);
        // 31 nodes with 16 VARs come to 63.
        b.x.method(0, 0, 0, -1, INT, sum);
        b.x.method(0, 1, 0, -1, INT, v);
        b.x.method(1, 2, 0, -1, INT, v);
        return b;
    }

    private static void extractOrder() {
        calls.refused("NOT_THAT ahead of OUTPUT", () -> extracted("(raise (set c 1))"), x -> x.extract(0, 0, 9), NOT_THAT);
        calls.refused("NOT_THAT ahead of three", () -> extracted("(let e 1 (raise (+ c (+ d e))))"), x -> x.extract(0, 2, 9), NOT_THAT);
        calls.refused("NOT_THAT ahead of CLASH", () -> extracted("(raise 1)", "1j"), x -> x.extract(0, 0, 9), NOT_THAT);
        calls.refused("OUTPUT ahead of three", () -> extracted("(let e 1 (+ (+ c d) (set e 1)))"), x -> x.extract(0, 2, 9), OUTPUT);
        calls.refused("OUTPUT of the fourth", () -> extracted("(let e 1 (let f 2 (+ (+ c d) (+ e (set f 3)))))"), x -> x.extract(0, 4, 9), OUTPUT);
        calls.refused("OUTPUT ahead of CLASH", () -> extracted("(set c 1)", "1j-"), x -> x.extract(0, 0, 9), OUTPUT);
        calls.refused("CLASH ahead of a 25th", () -> repeated(24, 1, 0), x -> x.extract(0, 0, 1), CLASH);
        calls.refused("CLASH ahead of 61 nodes", () -> repeated(2, 20, 2), x -> x.extract(0, 21, 1), CLASH);
        calls.refused("CLASH ahead of 61 nodes in another one", ReasonsTest::otherTooLarge, x -> x.extract(1, 0, 0), CLASH);
        calls.refused("NOT_THAT ahead of a 25th", ReasonsTest::neverOf24, x -> x.extract(0, 0, 14), NOT_THAT);
        calls.refused("three ahead of a 25th", ReasonsTest::neverOf24, x -> x.extract(1, 2, 14), TOO_MANY);
    }

    private static Bench neverOf24() {
        Bench b = new Bench(-1, -1);
        b.method(0, "a", "", INT, "(raise 1)");
        b.method(0, "b", "a- b-", INT, "(let c 1 (+ a (+ b c)))");
        int one = b.x.number(1);
        for (int m = 2; m < 24; m++) b.x.method(1, m % 16, m / 16 == 1 ? 3 : -1, -1, INT, one);
        return b;
    }

    private static void addParameter() {
        calls.refused("it has 2", () -> named(FORK, "0a--"), x -> x.addParameter(0, 1), TOO_MANY);
        String[] clashes = {"2a 2a-", "2a 1a-", "2a 0a-", "2a 3a-", "2a 5a-", "2a- 2a--", "2a- 0a--", "2a- 5a--"};
        for (String c : clashes) calls.refused("in a chain, " + c, () -> named(CHAIN, c.split(" ")), x -> x.addParameter(0, 1), CLASH);
        String[] over = {"1a 0a 2a-", "3a 0a 2a-", "3a- 1a- 0a--"};
        for (String c : over) calls.refused("over others of the family, " + c, () -> named(FORK, c.split(" ")), x -> x.addParameter(0, 1), CLASH);
        String[] free = {"1a 2a-", "0a 4a-", "0a 0a--", "0a- 0a", "3a 2a- 4a-"};
        for (String f : free) due.is("free, " + f, named(FORK, f.split(" ")).x.addParameter(0, 1), 0);
        for (int n : new int[] {0, -1, Integer.MIN_VALUE, Integer.MAX_VALUE}) {
            Bench b = new Bench(-1);
            b.method(0, "a", "", INT, "1");
            b.method(0, "b", "", INT, "(call a this)");
            due.is("any number", b.x.addParameter(0, n), 1);
            due.is("what CALLs give it", b.x.node(1, 2, 1), n);
        }
    }

    /** Method 0 has so many names in its body; method 1, of a class below, is of its family, with all names but these. */
    private static Bench families(int names, int below, boolean isClashing) {
        Bench b = new Bench(-1, 0);
        b.method(0, "a", "", INT, inLets(names, "1"));
        b.method(1, "a", "", INT, inLets(below, "1"));
        if (isClashing) b.method(1, "a", "a-", INT, "1");
        return b;
    }

    private static void addParameterTooMany() {
        Bench b = families(15, 4, false);
        due.is("the last name", b.x.addParameter(0, 1), 0);
        due.is("it", b.x.tell(0, 3), 15);
        due.is("another one has another", b.x.tell(1, 3), 4);
        calls.refused("no fresh name", () -> families(16, 4, false), x -> x.addParameter(0, 1), TOO_MANY);
        calls.refused("no fresh name for one below", () -> families(4, 16, false), x -> x.addParameter(0, 1), TOO_MANY);
        calls.refused("no fresh name for one above", () -> families(16, 4, false), x -> x.addParameter(1, 1), TOO_MANY);
        calls.refused("CLASH ahead of no fresh name", () -> families(16, 4, true), x -> x.addParameter(0, 1), CLASH);
        // n CALLs of THIS are 3 n - 1 nodes, and n more with a NUMBER each.
        due.is("60 nodes", called(15, 1, false).x.addParameter(0, 1), 15);
        calls.refused("61 nodes", () -> called(15, 2, false), x -> x.addParameter(0, 1), TOO_MANY);
        calls.refused("CLASH ahead of 61 nodes", () -> called(15, 2, true), x -> x.addParameter(0, 1), CLASH);
    }

    private static Bench called(int times, int raises, boolean isClashing) {
        Bench b = new Bench(-1);
        b.method(0, "a", "", INT, "1");
        int call = b.tell("(call a this)"), sum = call;
        for (int i = 1; i < times; i++) sum = b.x.two(2, sum, call);
        for (int i = 0; i < raises; i++) sum = b.x.raise(sum);
        b.x.method(0, 1, -1, -1, INT, sum);
        if (isClashing) b.method(0, "a", "a-", INT, "1");
        return b;
    }

    /** Method 0 of class 0 and method 1 of class 1 are of a family, with parameters c and d, or d and c. */
    private static Bench used(String first, String second, String... others) {
        Bench b = new Bench(-1, 0, 0);
        b.x.fieldOf(0, 0, INT);
        b.x.fieldOf(0, 1, 0);
        b.method(0, "a", "c- d-", INT, first);
        b.method(1, "a", "d- c-", INT, second);
        for (String m : others) b.method(m.charAt(0) - '0', m.substring(1, 2), m.substring(2, m.indexOf(':')), INT, m.substring(m.indexOf(':') + 1));
        return b;
    }

    private static void dropUsed() {
        String[] uses = {"c", "(set c 1)", "(+ 1 (raise c))", "(let c c 1)", "(let e 1 (set c e))"};
        for (String u : uses) {
            calls.refused("the first, " + u, () -> used(u, "1"), x -> x.dropParameter(0, 0), USED);
            calls.refused("the first, asked of another one, " + u, () -> used(u, "1"), x -> x.dropParameter(1, 0), USED);
            calls.refused("the second of another one, " + u, () -> used("1", u), x -> x.dropParameter(0, 1), USED);
            due.is("the other one, " + u, used(u, "1").x.dropParameter(0, 1), 0);
            due.is("the other one of another one, " + u, used("1", u).x.dropParameter(0, 0), 0);
        }
        String[] free = {"1", "(let c 1 c)", "(let c 1 (set c 2))", "d", "(field a this)"};
        for (String f : free) due.is("the first, " + f, used(f, "1").x.dropParameter(0, 0), 0);
        calls.refused("USED ahead of CLASH", () -> used("c", "1", "0ac-:1"), x -> x.dropParameter(0, 0), USED);
        calls.refused("USED ahead of EFFECT", () -> used("c", "1", "0b:(call a this (seq 1 2) 3)"), x -> x.dropParameter(0, 0), USED);
    }

    private static void dropClashAndEffect() {
        for (String of : new String[] {"0", "1", "2"}) {
            calls.refused("one with one less, of " + of, () -> used("1", "1", of + "ac-:1"), x -> x.dropParameter(0, 0), CLASH);
            calls.refused("CLASH ahead of EFFECT, of " + of, () -> used("1", "1", of + "ac-:1", "0b:(call a this (seq 1 2) 3)"), x -> x.dropParameter(0, 0), CLASH);
            calls.refused("EFFECT, of " + of, () -> used("1", "1", of + "b:(call a this (seq 1 2) 3)"), x -> x.dropParameter(0, 0), EFFECT);
            due.is("EFFECT of the other argument, of " + of, used("1", "1", of + "b:(call a this (seq 1 2) 3)").x.dropParameter(0, 1), 1);
            due.is("one with two less, of " + of, used("1", "1", of + "a:1").x.dropParameter(0, 0), 0);
        }
        String[] plain = {"1", "c", "a", "(field a this)", "(+ 1 c)", "(- (* 1 a) (< c (field a this)))", "(+ (+ (+ 1 2) 3) (+ 4 5))"};
        String[] others = {
            "(seq 1 2)", "(guard 1 2)", "(test 1 2 3)", "(raise 1)", "(let e 1 e)", "(set a 1)", "(put a this 1)", "(call a this 1 2)", "(field a b)", "(field a new0)",
            "(field a (field b this))", "(+ 1 (set a 1))", "(+ (raise 1) 1)", "(+ (+ 1 2) (+ 3 (field a b)))", "(set c 1)"};
        for (String p : plain) {
            due.is("plain, " + p, used("1", "1", "0bc-:(call a this " + p + " 3)").x.dropParameter(0, 0), 1);
            due.is("plain, the second, " + p, used("1", "1", "0bc-:(call a new1 (seq 1 2) " + p + ")").x.dropParameter(0, 1), 1);
        }
        for (String o : others) {
            calls.refused("not plain, " + o, () -> used("1", "1", "0bc-:(call a this " + o + " 3)"), x -> x.dropParameter(0, 0), EFFECT);
            calls.refused("not plain, the second, " + o, () -> used("1", "1", "0bc-:(call a new1 3 " + o + ")"), x -> x.dropParameter(0, 1), EFFECT);
        }
        calls.refused("the last of three", () -> used("1", "1", "0bc-:(+ (call a this 1 3) (+ (call a this c 3) (call a this (seq 1 2) 3)))"), x -> x.dropParameter(0, 0), EFFECT);
        Bench objects = new Bench(-1);
        objects.method(0, "a", "a0 b0", INT, "1");
        objects.method(0, "b", "", INT, "(call a this this new0)");
        calls.refused("MAKE", () -> objects(), x -> x.dropParameter(0, 1), EFFECT);
        due.is("THIS", objects.x.dropParameter(0, 0), 1);
    }

    private static Bench objects() {
        Bench b = new Bench(-1);
        b.method(0, "a", "a0 b0", INT, "1");
        b.method(0, "b", "", INT, "(call a this this new0)");
        return b;
    }

    private static void pullUp() {
        for (int of : new int[] {0, 4}) {
            String m = of + "a";
            calls.refused("without a parent, " + m, () -> named(FORK, m), x -> x.pullUp(0), NOT_THAT);
        }
        String[] clashes = {"2a 1a", "2a- 1a-", "2a-- 1a--", "2a 1a 0a", "5a 4a"};
        for (String c : clashes) calls.refused("the parent has one, " + c, () -> named(CHAIN, c.split(" ")), x -> x.pullUp(0), CLASH);
        String[] changes = {"2a 0a", "5a 0a", "5a 3a", "3a- 0a-", "5a 3a 0a"};
        for (String c : changes) calls.refused("a class above the parent has one, " + c, () -> named(CHAIN, c.split(" ")), x -> x.pullUp(0), CHANGES);
        String[][] free = {{"2a", "1"}, {"5a", "4"}, {"2a 1a-", "1"}, {"2a 0a--", "1"}, {"2a- 1a", "1"}, {"2a 3a", "1"}, {"1a 2a 5a", "0"}, {"2a 1b 0b", "1"}};
        for (String[] f : free) due.is("to the parent, " + f[0], named(CHAIN, f[0].split(" ")).x.pullUp(0), Integer.parseInt(f[1]));
        due.is("beside one that has it", named(FORK, "1a", "2a").x.pullUp(0), 0);
        due.is("the one beside, then", pulled().x.pullUp(1), CLASH);
    }

    private static Bench pulled() {
        Bench b = named(FORK, "1a", "2a");
        b.x.pullUp(0);
        return b;
    }

    private static Bench pulling(String parameters, int returns, String body, String... others) {
        Bench b = new Bench(-1, 0, 1, 0);
        b.x.fieldOf(0, 0, INT);
        b.x.fieldOf(1, 1, INT);
        b.method(1, "c", "", INT, "1");
        b.method(1, "a", parameters, returns, body);
        for (String m : others) {
            String[] s = m.split(", ");
            b.method(Integer.parseInt(s[0]), s[1], s[2].trim(), Integer.parseInt(s[3]), s[4]);
        }
        return b;
    }

    private static void pullUpInvisible() {
        String[] below = {"b", "(set b 1)", "(field b this)", "(put b this 1)", "(call c this)", "(+ a b)"};
        for (String s : below) calls.refused("what is left below, " + s, () -> pulling("", INT, s), x -> x.pullUp(1), INVISIBLE);
        String[] above = {"a", "(set a 1)", "(field a this)", "(put a this 1)", "(call c new1)", "(field b new1)", "(let b 1 b)"};
        for (String s : above) due.is("what is above, " + s, pulling("", INT, s).x.pullUp(1), 0);
        calls.refused("THIS is higher than what is returned", () -> pulling("", 1, "this"), x -> x.pullUp(1), INVISIBLE);
        due.is("THIS is what is returned", pulling("", 0, "this").x.pullUp(1), 0);
        calls.refused("one beside returns another type", () -> pulling("", INT, "1", "3, a, , 0, this"), x -> x.pullUp(1), INVISIBLE);
        calls.refused("one beside takes another type", () -> pulling("d-", INT, "1", "3, a, d0, -1, 1"), x -> x.pullUp(1), INVISIBLE);
        due.is("one beside is the same", pulling("d-", INT, "1", "3, a, e-, -1, 2").x.pullUp(1), 0);
        calls.refused("CLASH ahead", () -> pulling("", INT, "b", "0, a, , -1, 1"), x -> x.pullUp(1), CLASH);
        calls.refused("CHANGES ahead", ReasonsTest::changedAndInvisible, x -> x.pullUp(0), CHANGES);
    }

    private static Bench changedAndInvisible() {
        Bench b = new Bench(-1, 0, 1);
        b.x.fieldOf(2, 0, INT);
        b.method(2, "a", "", INT, "a");
        b.method(0, "a", "", INT, "1");
        return b;
    }

    /** Method 0 is a of class 1, which is below 0, and above 2 and 3; 4 is below 2. */
    private static Bench pushing(String body, String... others) {
        Bench b = new Bench(-1, 0, 1, 1, 2);
        b.x.fieldOf(0, 0, 1);
        b.method(1, "a", "", INT, body);
        for (String m : others) {
            String[] s = m.split(", ");
            b.method(Integer.parseInt(s[0]), s[1], s[2].trim(), s[3].contains("new") && !s[3].contains("(") ? 0 : INT, s[3]);
        }
        return b;
    }

    private static void pushDown() {
        for (String m : new String[] {"2a", "3a", "5a"}) {
            int[] parents = {-1, 0, 0, 1, -1, 4};
            calls.refused("none below " + m, () -> named(parents, m), x -> x.pushDown(0), NOT_THAT);
        }
        calls.refused("made", () -> pushing("1", "0, b, , new1"), x -> x.pushDown(0), USED);
        calls.refused("made by itself", () -> pushing("(let b new1 1)"), x -> x.pushDown(0), USED);
        calls.refused("made in a class beside", () -> pushing("1", "3, b, , (+ 1 (let b new1 2))"), x -> x.pushDown(0), USED);
        due.is("a class below is made", pushing("1", "0, b, , new2").x.pushDown(0), 2);
        due.is("a class above is made", pushing("1", "0, b, , new0").x.pushDown(0), 2);
        calls.refused("called of THIS in its class", () -> pushing("1", "1, b, , (call a this)"), x -> x.pushDown(0), USED);
        calls.refused("called of itself", () -> pushing("(call a this)"), x -> x.pushDown(0), USED);
        calls.refused("called of a field of its class", () -> pushing("1", "0, b, , (call a a)"), x -> x.pushDown(0), USED);
        calls.refused("called of a parameter of its class", () -> pushing("1", "4, b, b1, (call a b)"), x -> x.pushDown(0), USED);
        due.is("called of classes below", pushing("1", "2, b, , (call a this)", "0, c, , (+ (call a new3) (call a new4))").x.pushDown(0), 2);
        due.is("one of another number is called", pushing("1", "1, a, b-, 1", "1, b, , (call a this 1)").x.pushDown(0), 2);
        calls.refused("a class above has one", () -> pushing("1", "0, a, , 1"), x -> x.pushDown(0), CHANGES);
        calls.refused("a class two above has one", () -> named(CHAIN, "2a", "0a"), x -> x.pushDown(0), CHANGES);
        due.is("a class above has one with another number", pushing("1", "0, a, b-, 1").x.pushDown(0), 2);
        due.is("a class above has another one", pushing("1", "0, b, , 1").x.pushDown(0), 2);
        due.is("a class beside has one", named(FORK, "1a", "2a").x.pushDown(0), 1);
    }

    /** So many methods are told, and classes 1 to 3 are below 0; the first is not right anywhere but in class 0. */
    private static Bench spread(int methods, boolean isRight) {
        Bench b = new Bench(-1, 0, 0, 0);
        b.x.fieldOf(0, 15, 0);
        b.method(0, "a", "", INT, isRight ? "1" : "(let b this (seq (set b p) 1))");
        for (int m = 1; m < methods; m++) b.x.method(m % 3 + 1, m / 3 + 1, -1, -1, INT, b.x.number(m));
        return b;
    }

    private static void pushDownTooMany() {
        due.is("24", spread(22, true).x.pushDown(0), 3);
        calls.refused("25", () -> spread(23, true), x -> x.pushDown(0), TOO_MANY);
        calls.refused("26", () -> spread(24, true), x -> x.pushDown(0), TOO_MANY);
        calls.refused("INVISIBLE, with 24", () -> spread(22, false), x -> x.pushDown(0), INVISIBLE);
        calls.refused("TOO_MANY ahead of INVISIBLE", () -> spread(23, false), x -> x.pushDown(0), TOO_MANY);
        Bench one = new Bench(-1, 0);
        int n = one.x.number(1);
        one.x.method(0, 0, -1, -1, INT, n);
        for (int m = 1; m < 24; m++) one.x.method(1, m % 16, m / 16 == 1 ? 3 : -1, -1, INT, n);
        due.is("one class below needs no number", one.x.pushDown(0), 1);
        Bench all = new Bench(-1, 0, 0);
        n = all.x.number(1);
        for (int m = 0; m < 3; m++) all.x.method(m, 0, -1, -1, INT, n);
        for (int m = 3; m < 24; m++) all.x.method(m % 2 + 1, m / 2, -1, -1, INT, n);
        due.is("nor do classes that have it", all.x.pushDown(0), 0);
        calls.refused("THIS is lower", () -> pushing("(let b this (seq (set b a) 1))"), x -> x.pushDown(0), INVISIBLE);
    }

    private static void pushDownOrder() {
        calls.refused("NOT_THAT ahead of USED", () -> pushing("1", "4, b, , 1", "0, c, , new4"), x -> x.pushDown(1), NOT_THAT);
        calls.refused("NOT_THAT ahead of CHANGES", () -> pushing("1", "4, a, , 1"), x -> x.pushDown(1), NOT_THAT);
        calls.refused("USED ahead of CHANGES", () -> pushing("1", "0, a, , 1", "0, b, , new1"), x -> x.pushDown(0), USED);
        calls.refused("USED ahead of INVISIBLE", () -> pushing("(let b this (seq (set b a) 1))", "0, b, , new1"), x -> x.pushDown(0), USED);
        calls.refused("CHANGES ahead of INVISIBLE", () -> pushing("(let b this (seq (set b a) 1))", "0, a, , 1"), x -> x.pushDown(0), CHANGES);
        calls.refused("USED ahead of TOO_MANY", () -> crowded("(call a this)", false), x -> x.pushDown(0), USED);
        calls.refused("CHANGES ahead of TOO_MANY", () -> crowded("1", true), x -> x.pushDown(0), CHANGES);
        calls.refused("TOO_MANY", () -> crowded("1", false), x -> x.pushDown(0), TOO_MANY);
    }

    /** 24 methods, the first of which is a of class 1, above 2 and 3. */
    private static Bench crowded(String body, boolean isAbove) {
        Bench b = new Bench(-1, 0, 1, 1);
        b.method(1, "a", "", INT, body);
        b.x.method(0, isAbove ? 0 : 1, -1, -1, INT, b.x.number(1));
        for (int m = 2; m < 24; m++) b.x.method(m % 2 + 2, m / 2 + 2, -1, -1, INT, b.x.number(m));
        return b;
    }

    /** A field a of class 2, and methods that are told as class, name and how many parameters they have. */
    private static Bench enclosing(int[] parents, String... methods) {
        Bench b = named(parents, methods);
        b.x.fieldOf(2, 0, INT);
        return b;
    }

    private static void enclose() {
        for (int c = 0; c < 6; c++) {
            String getter = c + "j", setter = c + "k-";
            calls.refused("the first name, " + getter, () -> enclosing(CHAIN, getter), x -> x.enclose(2, 0, 9, 10), CLASH);
            calls.refused("the second name, " + setter, () -> enclosing(CHAIN, setter), x -> x.enclose(2, 0, 9, 10), CLASH);
        }
        String[] free = {"2j-", "2j--", "2k", "2k--", "1j-", "3k", "0j--"};
        for (String f : free) due.is("with another number, " + f, enclosing(CHAIN, f).x.enclose(2, 0, 9, 10), 0);
        for (String f : new String[] {"1j", "1k-", "3j", "3k-", "4j", "4k-"}) due.is("not akin, " + f, enclosing(FORK, f).x.enclose(2, 0, 9, 10), 0);
        calls.refused("one name for both, that one has", () -> enclosing(CHAIN, "2j-"), x -> x.enclose(2, 0, 9, 9), CLASH);
        due.is("one name for both", enclosing(CHAIN, "2j--").x.enclose(2, 0, 9, 9), 0);
    }

    private static Bench encloseOf(int methods) {
        Bench b = new Bench(-1, -1);
        b.x.fieldOf(0, 0, INT);
        int one = b.x.number(1);
        for (int m = 0; m < methods; m++) b.x.method(1, m % 16, m / 16 == 1 ? 3 : -1, -1, INT, one);
        return b;
    }

    private static void encloseTooMany() {
        due.is("24", encloseOf(22).x.enclose(0, 0, 0, 0), 0);
        calls.refused("25", () -> encloseOf(23), x -> x.enclose(0, 0, 0, 0), TOO_MANY);
        calls.refused("26", () -> encloseOf(24), x -> x.enclose(0, 0, 0, 0), TOO_MANY);
        calls.refused("CLASH ahead", ReasonsTest::encloseCrowded, x -> x.enclose(0, 0, 1, 2), CLASH);
        calls.refused("CLASH of the second ahead", ReasonsTest::encloseCrowded, x -> x.enclose(0, 0, 2, 1), CLASH);
        calls.refused("no CLASH", ReasonsTest::encloseCrowded, x -> x.enclose(0, 0, 2, 2), TOO_MANY);
    }

    private static Bench encloseCrowded() {
        Bench b = encloseOf(21);
        b.method(0, "b", "", INT, "1");
        b.method(0, "b", "b-", INT, "1");
        return b;
    }

    private static void exceptionsGoFirst() {
        // Where an exception applies, no reason is looked at.
        calls.badArgument("its own name, which its family has", () -> named(CHAIN, "2a", "0a"), x -> x.renameMethod(0, 0));
        calls.badArgument("its own name, of a field", () -> fields(CHAIN, 1), x -> x.renameField(2, 0, 0));
        calls.outOfBounds("no such parameter, ahead of CLASH", () -> body("c-", "c"), x -> x.renameLocal(0, -2, 2));
        calls.badArgument("no name, ahead of NOT_THAT", () -> body("c-", "c"), x -> x.renameLocal(0, 0, 16));
        calls.badArgument("no name, ahead of NOT_THAT", () -> extracted("(raise 1)"), x -> x.extract(0, 0, 16));
        calls.badArgument("no name, ahead of CLASH", () -> enclosing(CHAIN, "2j"), x -> x.enclose(2, 0, 9, 16));
        calls.outOfBounds("no such parameter, ahead of CLASH", () -> named(CHAIN, "2a-", "2a"), x -> x.dropParameter(0, 1));
    }
}
