/** "Changing", sentence by sentence, where changes are done: fresh names, what is made plain, likes, copies, and methods that are gone. */
public final class ChangingTest {
    private static final Due due = new Due("changing");
    private static final int INT = SmithyBench.INT, RIGHT = SmithyBench.NONE;
    private static final int CLASH = SmithyBench.CLASH, USED = SmithyBench.USED, EFFECT = SmithyBench.EFFECT;

    public static void main(String[] arguments) {
        due.part("families", ChangingTest::families);
        due.part("families of 24", ChangingTest::largeFamilies);
        due.part("fresh names", ChangingTest::freshNames);
        due.part("fresh names, inlined", ChangingTest::freshNamesOfBoth);
        due.part("fresh names, of others", ChangingTest::freshNamesOfOthers);
        due.part("made plain by a field", ChangingTest::plainByField);
        due.part("made plain by a local", ChangingTest::plainByLocal);
        due.part("made plain by inlining", ChangingTest::plainByInlining);
        due.part("what is renamed", ChangingTest::renamed);
        due.part("inlined", ChangingTest::inlined);
        due.part("extracted locals", ChangingTest::extractedLocals);
        due.part("likes", ChangingTest::likes);
        due.part("no likes", ChangingTest::noLikes);
        due.part("where likes are", ChangingTest::whereLikesAre);
        due.part("parameters added", ChangingTest::added);
        due.part("parameters dropped", ChangingTest::dropped);
        due.part("pulled up", ChangingTest::pulledUp);
        due.part("pushed down", ChangingTest::pushedDown);
        due.part("fields behind methods", ChangingTest::enclosed);
        due.part("what is reached", ChangingTest::reached);
        due.part("what overrides is the first one told", ChangingTest::overriddenByTheFirst);
        due.part("THIS has no name", ChangingTest::plainThis);
        due.part("names that are free again", ChangingTest::freeAgain);
        due.part("many changes", ChangingTest::manyChanges);
        due.part("methods that are gone", ChangingTest::gone);
        due.part("methods that are long gone", ChangingTest::longGone);
        due.part("methods that are gone, and reasons", ChangingTest::goneAndReasons);
        due.end();
    }

    private static void families() {
        // 1 and 2 below 0, 3 below 1, 4 below 2, and 5 by itself.
        Bench b = new Bench(-1, 0, 0, 1, 2, -1);
        int one = b.x.number(1);
        for (int c : new int[] {3, 4, 5, 1}) b.x.method(c, 0, -1, -1, INT, one);
        int[] want = {2, 1, 1, 2};
        for (int m = 0; m < 4; m++) due.is("of " + m, b.x.tell(m, 7), want[m]);
        b.x.method(0, 0, 3, -1, INT, one);
        for (int m = 0; m < 4; m++) due.is("of " + m + ", with another number", b.x.tell(m, 7), want[m]);
        b.x.method(0, 0, -1, -1, INT, one);
        int[] joined = {4, 4, 1, 4, 1, 4};
        for (int m = 0; m < 6; m++) due.is("of " + m + ", over another one", b.x.tell(m, 7), joined[m]);
        due.is("renamed from the lowest", b.x.renameMethod(1, 6), 0);
        int[] names = {6, 6, 0, 6, 0, 6};
        for (int m = 0; m < 6; m++) due.is("name of " + m, b.x.tell(m, 1), names[m]);
    }

    /** 24 methods of one name and none: six families of classes by themselves, and one over all of them. */
    private static void largeFamilies() {
        Bench b = new Bench(-1, 0, 0, 0, 0, 0);
        int one = b.x.number(1);
        for (int name = 0; name < 4; name++) for (int c = 5; c >= 0; c--) b.x.method(c, name, -1, -1, INT, one);
        for (int m = 0; m < 24; m++) due.is("of " + m, b.x.tell(m, 7), 6);
        due.is("renamed", b.x.renameMethod(0, 4), 0);
        for (int m = 0; m < 24; m++) due.is("name of " + m, b.x.tell(m, 1), m < 6 ? 4 : m / 6);
        due.is("the last", b.x.renameMethod(23, 15), 0);
        for (int m = 18; m < 24; m++) due.is("name of " + m, b.x.tell(m, 1), 15);
        due.is("to one that is there", b.x.renameMethod(23, 4), CLASH);
    }

    /** The name that a new parameter gets in a method with this body. */
    private static int freshOf(String parameters, String body) {
        Bench b = new Bench(-1, 0);
        b.x.fieldOf(0, 0, INT);
        b.x.fieldOf(0, 1, INT);
        b.method(1, "a", "", INT, "1");
        b.method(1, "p", parameters, INT, body);
        if (b.x.addParameter(1, 5) < 0) return -1;
        return b.x.tell(1, parameters.isEmpty() ? 3 : 4);
    }

    private static void freshNames() {
        String[] named = {"a", "(set a 1)", "(let a 1 2)", "(field a this)", "(put a this 1)", "(call a this)"};
        for (String n : named) due.is("has a, " + n, freshOf("", n), 1);
        String[] none = {"0", "(seq new0 1)", "(+ 0 0)", "(- 0 1)", "(seq this 0)", "(test 0 0 0)", "(guard 0 (raise 0))", "b", "(let p 1 2)"};
        for (String n : none) due.is("has no a, " + n, freshOf("", n), 0);
        due.is("a parameter", freshOf("a-", "1"), 1);
        due.is("a parameter, and a node", freshOf("a-", "b"), 2);
        due.is("the lowest one between", freshOf("", "(+ a (let c 1 (field b this)))"), 3);
        due.is("the lowest one between, c", freshOf("d-", "(+ a (let e 1 (field b this)))"), 2);
        due.is("one that is hidden counts", freshOf("", "(let a 1 (let b 2 (let b 3 4)))"), 2);
        due.is("its own name is that of no node", freshOf("p-", "(+ a b)"), 2);
    }

    private static void freshNamesOfBoth() {
        // Method 0 takes two numbers; the names of its parameters and nodes, and those of the one that CALLs, are taken.
        String[][] rows = {
            {"a- b-", "1", "(call a this 1 2)", "(let c 1 (let d 2 1))"},
            {"b- c-", "b", "(call a this 1 2)", "(let d 1 (let e 2 d))"},
            {"b- c-", "(+ c b)", "(let d 1 (call a this d d))", "(let d 1 (let e d (let f d (+ f e))))"},
            {"e- f-", "(let g 1 (+ e g))", "(+ (call a this 1 2) (let b 3 b))", "(+ (let c 1 (let d 2 (let g 1 (+ c g)))) (let b 3 b))"},
            {"e- f-", "(field h this)", "(+ (call a this 1 2) (field h this))", "(+ (let b 1 (let c 2 (field h this))) (field h this))"}};
        for (String[] r : rows) {
            Bench b = new Bench(-1);
            b.x.fieldOf(0, 7, INT);
            b.method(0, "a", r[0], INT, r[1]);
            b.method(0, "b", "", INT, r[2]);
            b.method(0, "c", "", INT, "(let c 1 (let d 2 (let e 3 c)))");
            int place = 0;
            while (b.x.node(1, place, 0) != 7) place++;
            due.is(r[2] + " is inlined", b.x.inline(1, place) > 0 ? 1 : 0, 1);
            due.body(b.x, 1, r[3]);
        }
    }

    /** Names of a method that takes no part are those of another one, even of the next one. */
    private static void freshNamesOfOthers() {
        Bench b = new Bench(-1);
        b.method(0, "a", "b- c-", INT, "(+ b c)");
        b.method(0, "b", "d- e-", INT, "(let f 1 f)");
        b.method(0, "c", "g- h-", INT, "(call a this 1 2)");
        b.method(0, "d", "e-", INT, "(let e 1 e)");
        due.is("inlined", b.x.inline(2, 0), 7);
        due.body(b.x, 2, "(let d 1 (let e 2 (+ d e)))");
        due.is("added", b.x.addParameter(3, 1), 0);
        due.is("the first name", b.x.tell(3, 4), 0);
    }

    private static void plainByField() {
        String[][] rows = {
            {"a", "a- b-", "(+ p (set p (+ p a)))", "(+ (field a this) (put a this (+ (field a this) a)))"},
            {"b", "a- b-", "(set p (set p 1))", "(put b this (put b this 1))"},
            {"c", "a- b-", "(+ p (let c p (+ p c)))", "(+ c (let c c (+ (field c this) c)))"},
            {"c", "a- b-", "(let c (let c p p) (set p c))", "(let c (let c c (field c this)) (put c this c))"},
            {"c", "a- b-", "(+ (let c 1 (field p this)) (put p this p))", "(+ (let c 1 (field c this)) (put c this c))"},
            {"c", "a- b-", "(+ (let p 1 p) (let d p (set p d)))", "(+ (let p 1 p) (let d c (set c d)))"},
            {"d", "a- b-", "(let c (let d 1 d) p)", "(let c (let d 1 d) d)"}};
        int[] bound = {3, 2, 3, 3, 3, 2, 1};
        for (int i = 0; i < rows.length; i++) {
            Bench b = new Bench(-1, 0);
            b.x.fieldOf(0, 15, INT);
            b.method(1, "a", rows[i][1], INT, rows[i][2]);
            due.is(rows[i][2], b.x.renameField(0, 15, rows[i][0].charAt(0) - 'a'), bound[i]);
            due.body(b.x, 0, rows[i][3]);
            due.is("right", b.x.wrong(), RIGHT);
        }
    }

    private static void plainByLocal() {
        String[][] rows = {
            {"(let c 1 (+ p c))", "(let p 1 (+ (field p this) p))"},
            {"(let c p (set p c))", "(let p p (put p this p))"},
            {"(let c (set p 1) (set p (set p p)))", "(let p (set p 1) (put p this (put p this (field p this))))"},
            {"(let c 1 (let d p (field p this)))", "(let p 1 (let d (field p this) (field p this)))"},
            {"(let c 1 (+ c (let p p (set p 2))))", "(let p 1 (+ p (let p (field p this) (set p 2))))"}};
        for (String[] r : rows) {
            Bench b = new Bench(-1, 0);
            b.x.fieldOf(0, 15, INT);
            b.method(1, "a", "", INT, r[0]);
            due.is(r[0], b.x.renameLocal(0, 0, 15) >= 0 ? 1 : 0, 1);
            due.body(b.x, 0, r[1]);
            due.is("right", b.x.wrong(), RIGHT);
        }
        Bench b = new Bench(-1);
        b.x.fieldOf(0, 15, INT);
        b.method(0, "a", "c- d-", INT, "(+ p (let c p (set p (+ c d))))");
        due.is("a parameter", b.x.renameLocal(0, -1, 15), 0);
        due.body(b.x, 0, "(+ (field p this) (let c (field p this) (put p this (+ c d))))");
        due.is("the other one, which has no such name", b.x.renameLocal(0, -2, 15), CLASH);
        due.is("the other one", b.x.renameLocal(0, -2, 4), 1);
        for (String body : new String[] {"p", "(set p 1)"}) {
            Bench root = new Bench(-1);
            root.x.fieldOf(0, 15, INT);
            root.method(0, "a", "c-", INT, body);
            due.is("the body itself, " + body, root.x.renameLocal(0, -1, 15), 0);
            due.body(root.x, 0, body.equals("p") ? "(field p this)" : "(put p this 1)");
        }
    }

    private static void plainByInlining() {
        String[][] rows = {
            {"p", "c-", "(+ (call a this) c)", "(+ p c)"},
            {"p", "p-", "(+ (call a this) p)", "(+ (field p this) p)"},
            {"(set p 2)", "c- p-", "(+ (call a this) p)", "(+ (put p this 2) p)"},
            {"p", "", "(let p (call a this) p)", "(let p p p)"},
            {"p", "", "(let p 1 (call a this))", "(let p 1 (field p this))"},
            {"(+ p (let p p (set p 3)))", "p-", "(call a this)", "(+ (field p this) (let p (field p this) (set p 3)))"},
            {"(+ o p)", "", "(let p 1 (call a this))", "(let p 1 (+ o (field p this)))"},
            {"(set p (set o p))", "o-", "(let p 1 (call a this))", "(let p 1 (put p this (put o this (field p this))))"},
            {"(+ (field p this) p)", "p-", "(call a this)", "(+ (field p this) (field p this))"}};
        for (String[] r : rows) {
            Bench b = new Bench(-1, 0);
            b.x.fieldOf(0, 15, INT);
            b.x.fieldOf(0, 14, INT);
            b.method(0, "a", "", INT, r[0]);
            b.method(1, "b", r[1], INT, r[2]);
            int place = 0;
            while (b.x.node(1, place, 0) != 7) place++;
            due.is(r[0] + " in " + r[2], b.x.inline(1, place), b.x.tell(1, 6));
            due.body(b.x, 1, r[3]);
            due.body(b.x, 0, r[0]);
            due.is("right", b.x.wrong(), RIGHT);
        }
    }

    private static void renamed() {
        Bench b = new Bench(-1, 0, -1);
        b.method(0, "a", "", INT, "1");
        b.method(1, "a", "", INT, "2");
        b.method(2, "a", "", INT, "3");
        b.method(2, "b", "a0 b1", INT, "(+ (call a a) (+ (call a b) (+ (call a this) (call a new1))))");
        due.is("CALLs that are bound to any of the family", b.x.renameMethod(1, 9), 3);
        due.body(b.x, 3, "(+ (call j a) (+ (call j b) (+ (call a this) (call j new1))))");
        due.is("none", b.x.renameMethod(3, 9), 0);
        Bench c = new Bench(-1);
        c.x.fieldOf(0, 3, INT);
        c.method(0, "a", "d-", INT, "(+ d (let d 1 d))");
        due.is("a field that nothing is bound to", c.x.renameField(0, 3, 5), 0);
        due.body(c.x, 0, "(+ d (let d 1 d))");
        due.is("a parameter, and no LET of its name", c.x.renameLocal(0, -1, 8), 1);
        due.body(c.x, 0, "(+ i (let d 1 d))");
        due.is("a LET that nothing is bound to", namedLet().renameLocal(0, 0, 8), 0);
    }

    private static SmithyBench namedLet() {
        Bench b = new Bench(-1);
        b.method(0, "a", "", INT, "(let d 1 2)");
        return b.x;
    }

    private static void inlined() {
        String[][] rows = {
            {"", "1", "(call a this)", "1"},
            {"c-", "c", "(call a this 5)", "(let b 5 b)"},
            {"c-", "1", "(call a this 5)", "(let b 5 1)"},
            {"c- d-", "(- d c)", "(call a this 5 6)", "(let b 5 (let e 6 (- e b)))"},
            {"c-", "(set c (+ c 1))", "(+ 1 (call a this 5))", "(+ 1 (let b 5 (set b (+ b 1))))"},
            {"c-", "(let c c (+ c 1))", "(call a this 5)", "(let b 5 (let c b (+ c 1)))"},
            {"c-", "(let d 1 (+ c d))", "(let d 2 (call a this d))", "(let d 2 (let b d (let d 1 (+ b d))))"},
            {"c-", "c", "(+ (call a this 1) (call a this 2))", "(+ (let b 1 b) (call a this 2))"},
            {"c-", "c", "(call a this (call a this 1))", "(let b (call a this 1) b)"},
            {"c- d-", "c", "(call a this (let d 1 d) (let e 2 e))", "(let b (let d 1 d) (let f (let e 2 e) b))"},
            {"c-", "(call b this c)", "(call a this 1)", "(let d 1 (call b this d))"}};
        for (String[] r : rows) {
            Bench b = new Bench(-1);
            b.method(0, "a", r[0], INT, r[1]);
            b.method(0, "c", "", INT, r[2]);
            b.method(0, "b", "a-", INT, "a");
            int place = 0;
            while (b.x.node(1, place, 0) != 7) place++;
            due.is(r[2] + ", nodes", b.x.inline(1, place), b.x.tell(1, 6));
            // The name of a CALL is that of a node, too, so a is taken wherever one is left.
            due.body(b.x, 1, r[3]);
            due.body(b.x, 0, r[1]);
        }
        Bench b = new Bench(-1, 0);
        b.method(0, "a", "c-", INT, "(+ c 1)");
        b.method(1, "b", "", INT, "(call a this 4)");
        due.is("one of a class above", b.x.inline(1, 0), 5);
        due.is("of a class above, that this class has, too", overridingOne().inline(2, 0), 1);
    }

    private static SmithyBench overridingOne() {
        Bench b = new Bench(-1, 0);
        b.method(0, "a", "", INT, "(+ 1 2)");
        b.method(1, "a", "", INT, "3");
        b.method(1, "b", "", INT, "(call a this)");
        return b.x;
    }

    private static void extractedLocals() {
        String[][] rows = {
            // A body, a place, what the new method has, what is left, and the names of parameters.
            {"(+ a b)", "0", "(+ a b)", "(call j this a b)", "0", "1"},
            {"(+ b a)", "0", "(+ b a)", "(call j this b a)", "1", "0"},
            {"(+ b (+ a b))", "0", "(+ b (+ a b))", "(call j this b a)", "1", "0"},
            {"(let c 1 (+ c a))", "2", "(+ c a)", "(let c 1 (call j this c a))", "2", "0"},
            {"(let c 1 (+ c a))", "0", "(let c 1 (+ c a))", "(call j this a)", "0", "-1"},
            {"(let a 1 (+ a b))", "2", "(+ a b)", "(let a 1 (call j this a b))", "0", "1"},
            {"(let a a (+ a b))", "0", "(let a a (+ a b))", "(call j this a b)", "0", "1"},
            {"(+ 1 (+ 2 3))", "2", "(+ 2 3)", "(+ 1 (call j this))", "-1", "-1"},
            {"(let c b (let d a (+ (+ d d) c)))", "4", "(+ (+ d d) c)", "(let c b (let d a (call j this d c)))", "3", "2"},
            {"(set a (+ a p))", "1", "(+ a p)", "(set a (call j this a))", "0", "-1"},
            {"(seq (set p b) 1)", "1", "(set p b)", "(seq (call j this b) 1)", "1", "-1"}};
        for (String[] r : rows) {
            Bench b = new Bench(-1);
            b.x.fieldOf(0, 15, INT);
            b.method(0, "i", "a- b-", INT, r[0]);
            due.is(r[0], b.x.extract(0, Integer.parseInt(r[1]), 9), 101);
            due.body(b.x, 1, r[2]);
            due.body(b.x, 0, r[3]);
            due.is("the first", b.x.tell(1, 3), Integer.parseInt(r[4]));
            due.is("the second", b.x.tell(1, 4), Integer.parseInt(r[5]));
            due.is("right", b.x.wrong(), RIGHT);
        }
        // Its class, its type, and the types of its parameters.
        Bench b = new Bench(-1, 0);
        b.method(1, "i", "a1 b-", 0, "(seq (let c (raise 1) (seq c b)) (test b a new0))");
        due.is("of NEVER", b.x.extract(0, 4, 9), 101);
        due.is("its type", b.x.tell(1, 5), INT);
        due.is("that of NEVER", b.x.node(1, 1, 2), SmithyBench.NEVER);
        due.is("of the same name, with as many", b.x.extract(0, 8, 9), CLASH);
        due.is("of its own name, with as many", b.x.extract(0, 8, 8), CLASH);
        due.is("of a class", b.x.extract(0, 8, 7), 201);
        due.is("its class", b.x.tell(2, 0), 1);
        due.is("the higher type", b.x.tell(2, 5), 0);
        due.is("that of the first", b.x.node(2, 1, 2), INT);
        due.is("that of the second", b.x.node(2, 2, 2), 1);
        due.is("right", b.x.wrong(), RIGHT);
    }

    /** How many nodes a new method stands for, which is taken from one body where another body of the class is there, too. */
    private static int alike(String one, String other) {
        Bench b = new Bench(-1, 0);
        b.x.fieldOf(0, 14, 0);
        b.x.fieldOf(0, 15, INT);
        b.method(0, "g", "c-", INT, "99");
        b.method(0, "g", "c- d-", INT, "99");
        b.method(0, "a", "a- b-", INT, one);
        b.method(0, "b", "a- b-", INT, other);
        if (b.x.wrong() != RIGHT) return -99;
        int told = b.x.extract(2, 0, 9);
        return told < 0 ? told : told % 100;
    }

    private static void likes() {
        String[][] alike = {
            {"(+ a b)", "(+ b a)"}, {"(+ a a)", "(+ b b)"}, {"(+ a 1)", "(let c 2 (+ c 1))"}, {"(+ a p)", "(+ b p)"}, {"(let c 1 (+ a c))", "(let c 1 (+ b c))"},
            {"(let c 1 (set c a))", "(let c 1 (set c b))"}, {"(+ (+ a b) a)", "(let c 1 (+ (+ c b) c))"}, {"(set p a)", "(set p b)"},
            {"(put p this a)", "(put p this b)"}, {"(field p this)", "(field p this)"}, {"(call g this a)", "(call g this b)"}, {"(seq new1 a)", "(seq new1 b)"},
            {"(test a b 1)", "(test b a 1)"}, {"(guard a (raise b))", "(guard b (raise a))"}, {"(+ a 1)", "(let c 2 (raise (+ c 1)))"},
            {"(let a 1 (+ a b))", "(let a 1 (+ a b))"}, {"(let c a (let c c c))", "(let c b (let c c c))"}, {"a", "b"}, {"p", "p"}};
        for (String[] s : alike) due.is(s[0] + " and " + s[1], alike(s[0], s[1]), 2);
        due.is("as many as there are", alike("(+ a 1)", "(+ (+ a 1) (+ (+ b 1) (let c 1 (+ c 1))))"), 4);
        due.is("each NUMBER", alike("7", "(+ 7 (+ (- 7 8) 7))"), 4);
        due.is("each VAR of a local, of whatever place", alike("a", "(+ a (+ b (let c a c)))"), 5);
    }

    private static void noLikes() {
        String[][] others = {
            {"(+ a b)", "(+ a a)"}, {"(+ a a)", "(+ a b)"}, {"(+ a b)", "(- a b)"}, {"(+ a 1)", "(+ a 2)"}, {"(+ a 1)", "(+ 1 a)"}, {"(+ a p)", "(+ a b)"},
            {"(+ a b)", "(+ a p)"}, {"(let c 1 (+ a c))", "(let d 1 (+ a d))"}, {"(let c 1 (+ c 2))", "(let c 1 (+ a 2))"}, {"(let c 1 (+ a 2))", "(let c 1 (+ c 2))"},
            {"(set p 1)", "(set a 1)"}, {"(let c 1 (set c 2))", "(let c 1 (set b 2))"}, {"(put p this a)", "(put p new0 a)"}, {"(field p this)", "p"},
            {"p", "(field p this)"}, {"(seq new1 a)", "(seq new0 a)"}, {"(call g this a)", "(call g this a b)"}, {"(call g this a)", "(call g new0 a)"},
            {"(seq a b)", "(guard a b)"}, {"(test a b 1)", "(test a 1 b)"}, {"(call g this (call g this 1) 2)", "(call g this (call g this 1 2))"},
            {"(call g this (call g this 1 2))", "(call g this (call g this 1) 2)"}, {"a", "p"}, {"p", "a"}, {"1", "2"},
            {"(let c (raise 1) (+ c a))", "(let c (raise 2) (+ c a))"}};
        for (String[] s : others) due.is(s[0] + " and " + s[1], alike(s[0], s[1]), 1);
        // Of the same types: INT and NEVER are not, nor is a class and one below it.
        Bench b = new Bench(-1, 0);
        b.x.fieldOf(0, 15, INT);
        b.method(0, "a", "a-", INT, "(+ a 3)");
        b.method(0, "b", "a-", INT, "(let b (raise 1) (+ b 3))");
        b.method(0, "c", "a0", INT, "(field p a)");
        b.method(0, "d", "a1", INT, "(field p a)");
        b.method(0, "e", "a0 b1", INT, "(+ (field p b) (field p a))");
        due.is("INT", b.x.extract(0, 0, 9), 501);
        due.is("NEVER", b.x.extract(1, 3, 10), 601);
        due.is("a class", b.x.extract(2, 0, 11), 702);
        due.is("the class below", b.x.extract(3, 0, 12), 802);
        due.body(b.x, 4, "(+ (call m this b) (call l this a))");
    }

    private static void whereLikesAre() {
        Bench b = new Bench(-1, 0, 1, 0);
        for (int c = 0; c < 4; c++) b.method(c, "a", "a- b-", INT, "(+ (* a 2) (* b 2))");
        b.method(1, "b", "a-", INT, "(* a 2)");
        b.method(1, "c", "", INT, "(let d 1 (- (* d 2) 1))");
        due.is("in all methods of its class", b.x.extract(4, 0, 9), 604);
        due.body(b.x, 1, "(+ (call j this a) (call j this b))");
        due.body(b.x, 4, "(call j this a)");
        due.body(b.x, 5, "(let d 1 (- (call j this d) 1))");
        for (int m : new int[] {0, 2, 3}) due.body(b.x, m, "(+ (* a 2) (* b 2))");
        due.body(b.x, 6, "(* a 2)");
        due.is("not in the new one", b.x.extract(6, 0, 10), 701);
        due.body(b.x, 6, "(call k this a)");
        // From the root on: what is in an argument of one stays as it is, there being none.
        Bench c = new Bench(-1);
        c.method(0, "a", "a-", INT, "(+ (+ 1 1) (+ (+ 1 1) (+ 1 1)))");
        due.is("the root alone", c.x.extract(0, 0, 9), 101);
        due.is("in the new one", c.x.extract(1, 1, 10), 203);
        due.body(c.x, 1, "(+ (call k this) (+ (call k this) (call k this)))");
        Bench d = new Bench(-1);
        d.method(0, "a", "", INT, "(+ 5 (+ 5 6))");
        d.method(0, "b", "", INT, "5");
        due.is("asked of the last method", d.x.extract(1, 0, 9), 203);
        due.body(d.x, 0, "(+ (call j this) (+ (call j this) 6))");
        due.body(d.x, 1, "(call j this)");
        due.body(d.x, 2, "5");
    }

    private static void added() {
        Bench b = new Bench(-1, 0, 0);
        b.method(0, "a", "d-", INT, "d");
        b.method(1, "a", "a-", INT, "(+ a (let b 1 b))");
        b.method(2, "b", "", INT, "(+ (call a this (call a new0 1)) (call b this))");
        b.method(2, "a", "a- b-", INT, "a");
        due.is("not free", b.x.addParameter(0, 7), CLASH);
        due.is("renamed", b.x.renameMethod(3, 9), 0);
        due.is("CALLs", b.x.addParameter(0, 7), 2);
        due.body(b.x, 2, "(+ (call a this (call a new0 1 7) 7) (call b this))");
        int[][] names = {{3, 0}, {0, 2}};
        for (int m = 0; m < 2; m++) {
            due.is("how many", b.x.tell(m, 2), 2);
            due.is("the first is as before", b.x.tell(m, 3), names[m][0]);
            due.is("the last is new", b.x.tell(m, 4), names[m][1]);
        }
        due.is("not one more", b.x.addParameter(1, 7), SmithyBench.TOO_MANY);
        due.is("right", b.x.wrong(), RIGHT);
        due.is("the first argument is the first one", b.x.run(1, 1, 30, 4, false), 0);
        due.is("value", b.x.value(), 31);
    }

    private static void dropped() {
        Bench b = new Bench(-1, 0);
        b.method(0, "c", "", INT, "1");
        b.method(0, "a", "a0 b-", INT, "b");
        b.method(1, "a", "c0 d-", INT, "(let c 5 (+ c d))");
        b.method(0, "b", "a-", INT, "(+ (call a this this (call c this)) (call a new1 this (+ a 1)))");
        due.is("the second is used", b.x.dropParameter(1, 1), USED);
        due.is("the first", b.x.dropParameter(1, 0), 2);
        due.body(b.x, 3, "(+ (call a this (call c this)) (call a new1 (+ a 1)))");
        int[] names = {1, 3};
        for (int m = 1; m < 3; m++) {
            due.is("how many", b.x.tell(m, 2), 1);
            due.is("the one that is left", b.x.tell(m, 3), names[m - 1]);
            due.is("no second one", b.x.tell(m, 4), -1);
        }
        due.is("run, as it is an INT", b.x.run(3, 0, 6, 0, false), 0);
        due.is("value", b.x.value(), 1 + 5 + 7);
        due.is("bound", b.x.node(1, 0, 3), -1);
        due.is("an argument that is no longer plain", b.x.dropParameter(1, 0), USED);
        Bench c = new Bench(-1);
        c.method(0, "a", "a- b-", INT, "a");
        c.method(0, "b", "", INT, "(call a this (call a this 1 2) (+ 3 4))");
        due.is("the second, of one within another", c.x.dropParameter(0, 1), 2);
        due.body(c.x, 1, "(call a this (call a this 1))");
    }

    private static void pulledUp() {
        Bench b = new Bench(-1, 0, 0, 1);
        b.method(1, "a", "a- b-", INT, "(- a b)");
        b.method(3, "b", "", INT, "(call a this 5 3)");
        b.method(0, "c", "", INT, "(call b new3)");
        due.is("its class then", b.x.pullUp(0), 0);
        int[] told = {0, 0, 2, 0, 1, INT, 3, 1};
        for (int what = 0; what < 8; what++) due.is("tell " + what, b.x.tell(0, what), told[what]);
        due.is("bound as before", b.x.node(1, 0, 3), 2000);
        due.is("THIS is of the parent", pulledThis().node(0, 0, 2), 0);
        due.is("two up", b.x.pullUp(1), 1);
        due.is("and one more", b.x.pullUp(1), 0);
        due.is("no further", b.x.pullUp(1), SmithyBench.NOT_THAT);
        due.is("run", b.x.run(2, 2, 0, 0, false), 0);
        due.is("value", b.x.value(), 2);
        due.is("how many can be undone", b.x.undo(), 2);
    }

    private static SmithyBench pulledThis() {
        Bench b = new Bench(-1, 0);
        b.method(1, "a", "", 0, "this");
        b.x.pullUp(0);
        return b.x;
    }

    private static void pushedDown() {
        // 2, 3 and 5 are below 1, and 4 below 2.
        Bench b = new Bench(-1, 0, 1, 1, 2, 1);
        b.method(0, "e", "a- b-", INT, "(+ a b)");
        b.method(0, "f", "a- b0", INT, "a");
        b.method(1, "a", "e0 c-", 0, "(seq (+ c 1) e)");
        b.method(0, "g", "c- d0", INT, "c");
        b.method(4, "b", "", 0, "(call a this new0 1)");
        b.method(5, "c", "", 0, "(call a this new0 2)");
        b.method(2, "a", "d0 e-", 0, "d");
        due.is("those that have none", b.x.pushDown(2), 2);
        int[][] told = {{3, 0, 2, 4, 2, 0, 5, 1}, {2, 0, 2, 3, 4, 0, 1, 1}, {5, 0, 2, 4, 2, 0, 5, 1}};
        int[] numbers = {2, 6, 7};
        for (int i = 0; i < 3; i++) for (int what = 0; what < 8; what++) due.is("tell " + numbers[i] + " " + what, b.x.tell(numbers[i], what), told[i][what]);
        due.body(b.x, 7, "(seq (+ c 1) e)");
        due.is("the types are those of before", b.x.node(7, 4, 2), 0);
        due.is("bound to that of the class", b.x.node(4, 0, 3), 2006);
        due.is("bound to the copy", b.x.node(5, 0, 3), 2007);
        due.is("right", b.x.wrong(), RIGHT);
        due.is("the copy is by itself", b.x.renameMethod(7, 9), 1);
        due.is("the first is not renamed", b.x.tell(2, 1), 0);
        // By rising classes, and by rising numbers of methods.
        Bench c = new Bench(-1, 0, 0, 0, 0, 0);
        c.method(0, "a", "", INT, "1");
        c.method(0, "b", "", INT, "2");
        due.is("to five", c.x.pushDown(1), 5);
        int[] owners = {0, 1, 2, 3, 4, 5};
        for (int m = 1; m < 6; m++) due.is("class of " + m, c.x.tell(m, 0), owners[m]);
        due.is("to four more", c.x.pushDown(0), 5);
        for (int m = 6; m < 10; m++) due.is("class of " + m, c.x.tell(m, 0), m - 4);
    }

    private static void enclosed() {
        for (int field = 0; field < 16; field++) {
            Bench b = new Bench(-1, 0);
            b.x.fieldOf(0, field, 1);
            due.is("no node", b.x.enclose(0, field, 3, 3), 0);
            int parameter = field == 0 ? 1 : 0;
            int[][] told = {{0, 3, 0, -1, -1, 1, 1, 1}, {0, 3, 1, parameter, -1, 1, 2, 1}};
            for (int m = 0; m < 2; m++) for (int what = 0; what < 8; what++) due.is("tell " + m + " " + what, b.x.tell(m, what), told[m][what]);
            due.is("the field", b.x.node(0, 0, 3), 1000);
            due.is("the field is set", b.x.node(1, 0, 3), 1000);
            due.is("to the parameter", b.x.node(1, 1, 3), -1);
            due.is("its type", b.x.node(1, 1, 2), 1);
            due.is("right", b.x.wrong(), RIGHT);
        }
        String[][] rows = {
            {"(field a this)", "(field a this)", "0"}, {"(put a this 1)", "(put a this 1)", "0"}, {"a", "a", "0"}, {"(set a 1)", "(set a 1)", "0"},
            {"(field a new0)", "(call j new0)", "1"}, {"(put a new0 1)", "(call k new0 1)", "1"}, {"(field a (let b this b))", "(call j (let b this b))", "1"},
            {"(put a new1 (put a new0 (field a new1)))", "(call k new1 (call k new0 (call j new1)))", "3"}, {"(field a (seq (put a new0 1) this))", "(call j (seq (call k new0 1) this))", "2"},
            {"(+ (field b new0) (field a new2))", "(+ (field b new0) (field a new2))", "0"}, {"(let a 1 (+ a (field a new1)))", "(let a 1 (+ a (call j new1)))", "1"}};
        for (String[] r : rows) {
            Bench b = new Bench(-1, 0, -1);
            b.x.fieldOf(0, 0, INT);
            b.x.fieldOf(0, 1, INT);
            b.x.fieldOf(2, 0, INT);
            b.method(1, "a", "", INT, r[0]);
            due.is(r[0], b.x.enclose(0, 0, 9, 10), Integer.parseInt(r[2]));
            due.body(b.x, 0, r[1]);
            due.is("right", b.x.wrong(), RIGHT);
        }
    }

    private static void reached() {
        // Each CALLs the next one, and the last one the first.
        Bench b = new Bench(-1);
        for (int m = 0; m < 16; m++) b.x.method(0, m, -1, -1, INT, b.x.call(b.x.self(), (m + 5) % 16, -1, -1));
        b.method(0, "a", "a-", INT, "(call b this)");
        due.is("all but the one that CALLs", b.x.removeDead(3), 1);
        due.is("itself, over all others", b.x.inline(3, 0), SmithyBench.RECURSIVE);
        Bench c = new Bench(-1);
        for (int m = 0; m < 15; m++) c.x.method(0, m, -1, -1, INT, c.x.call(c.x.self(), m + 1, -1, -1));
        c.method(0, "p", "", INT, "1");
        due.is("those ahead", c.x.removeDead(7), 7);
        due.is("no longer", c.x.inline(14, 0), 1);
        for (int m = 0; m < 16; m++) {
            int method = m;
            if (m < 7) due.outOfBounds("gone", () -> c.x.tell(method, 0));
            else due.is("there", c.x.tell(m, 1), m);
        }
        due.is("all but itself", c.x.removeDead(14), 8);
        due.is("itself", c.x.begin(), 1);
        due.is("none", c.x.removeDead(14), 0);
        due.is("that was a change, too", c.x.undo(), 0);
        // Those that override are reached where their classes are at or below that of r.
        Bench d = new Bench(-1, 0, 1, 1, 0);
        for (int k = 0; k < 5; k++) d.method(k, "a", "", INT, "(call b this)");
        for (int k = 0; k < 5; k++) d.method(k, "b", "", INT, "1");
        d.method(4, "p", "", INT, "(call a new1)");
        due.is("a and b of 1, 2 and 3", d.x.removeDead(10), 4);
        for (int m : new int[] {0, 4, 5, 9}) due.outOfBounds("gone", () -> d.x.tell(m, 0));
        Bench e = new Bench(-1, 0, 1);
        e.method(0, "a", "", INT, "1");
        e.method(2, "a", "", INT, "(call b this)");
        e.method(0, "b", "", INT, "2");
        e.method(1, "p", "", INT, "(call a this)");
        due.is("bound above the class of r, and overridden below", e.x.removeDead(3), 0);
    }

    private static void overriddenByTheFirst() {
        Bench b = new Bench(-1, 0);
        b.method(1, "a", "", INT, "(call c this)");
        b.method(0, "a", "", INT, "1");
        b.method(0, "b", "", INT, "(call a this)");
        b.method(0, "c", "", INT, "(call b this)");
        due.is("OVERRIDDEN", b.x.inline(2, 0), SmithyBench.OVERRIDDEN);
        due.is("RECURSIVE", b.x.inline(3, 0), SmithyBench.RECURSIVE);
        due.is("reached", b.x.removeDead(2), 0);
        // The first one told has the CALL that matters.
        Bench c = new Bench(-1);
        c.method(0, "a", "", INT, "(call b this (seq 1 2))");
        c.method(0, "b", "c-", INT, "3");
        due.is("EFFECT", c.x.dropParameter(1, 0), EFFECT);
        Bench d = new Bench(-1, 0);
        d.method(0, "a", "", 0, "new0");
        d.method(0, "b", "", INT, "1");
        due.is("USED by a MAKE", d.x.pushDown(1), USED);
        Bench e = new Bench(-1, 0);
        e.method(0, "a", "", INT, "(call b this)");
        e.method(0, "b", "", INT, "1");
        due.is("USED by a CALL", e.x.pushDown(1), USED);
    }

    private static void plainThis() {
        Bench b = new Bench(-1);
        b.x.fieldOf(0, 15, INT);
        b.method(0, "a", "c-", INT, "(+ p (set p c))");
        b.method(0, "b", "p-", INT, "(+ (call d this) p)");
        b.method(0, "d", "", INT, "(set p p)");
        due.is("by a local", b.x.renameLocal(0, -1, 15), 1);
        due.is("by inlining", b.x.inline(1, 1), 6);
        due.is("by a field", b.x.renameField(0, 15, 14), 6);
        due.is("taken out", b.x.extract(2, 0, 9), 301);
        due.body(b.x, 0, "(+ (field o this) (put o this p))");
        due.body(b.x, 1, "(+ (put o this (field o this)) p)");
        for (int m = 0; m < 4; m++) for (int place = 0; place < b.x.tell(m, 6); place++) {
            if (b.x.node(m, place, 0) == 2) due.is("THIS at " + place + " of " + m, b.x.node(m, place, 1), 0);
        }
        // What has come to be there is like what was told.
        Bench c = new Bench(-1);
        c.x.fieldOf(0, 0, INT);
        c.method(0, "a", "", INT, "(seq (set a 5) (+ a a))");
        c.method(0, "b", "c-", INT, "(+ (set a c) (field a this))");
        c.method(0, "c", "a-", INT, "(+ (call a this) a)");
        due.is("behind methods", c.x.enclose(0, 0, 9, 10), 0);
        due.is("VARs and the getter", c.x.extract(0, 4, 11), 503);
        due.is("a SET of a local, and the setter", c.x.extract(1, 1, 12), 602);
        due.is("inlined", c.x.inline(2, 1), 11);
        due.is("inlined", c.x.inline(2, 6), 11);
        due.is("FIELDs of THIS", c.x.extract(1, 4, 13), 702);
    }

    private static void freeAgain() {
        Bench b = new Bench(-1, 0, 1);
        b.x.fieldOf(1, 3, INT);
        b.x.fieldOf(2, 4, INT);
        due.is("a field of a class below", b.x.renameField(1, 3, 5), 0);
        due.outOfBounds("the name of before", () -> b.x.renameField(1, 3, 6));
        due.is("is free for it", b.x.fieldOf(1, 3, INT), 2);
        due.is("and its new name is not", b.x.renameField(2, 4, 5), CLASH);
        due.is("of the lowest", b.x.renameField(2, 4, 9), 0);
        due.is("free above", b.x.fieldOf(0, 4, INT), 1);
        due.badState("not free", () -> b.x.fieldOf(0, 9, INT));
    }

    /** More changes than are kept, by which bodies come to be longer and shorter. */
    private static void manyChanges() {
        Bench b = new Bench(-1, 0);
        b.x.fieldOf(0, 15, INT);
        b.method(0, "a", "a-", INT, "(+ a (+ a (set a a)))");
        b.method(0, "b", "", INT, "(call a this 3)");
        for (int i = 0; i < 15; i++) {
            due.is("inlined", b.x.inline(1, 0), 8);
            int[] kinds = {5, 0, 11, 1, 11, 1, 6, 1};
            for (int place = 0; place < 8; place++) {
                due.is("kind", b.x.node(1, place, 0), kinds[place]);
                due.is("bound", b.x.node(1, place, 3), 0);
            }
            due.is("undone", b.x.undo(), 2 * Math.min(i, 4) + (i > 4 ? 1 : 0));
            due.is("renamed", b.x.renameField(0, 15 - i % 2, 14 + i % 2), 0);
            due.is("with one more", b.x.addParameter(1, 0), 0);
            due.is("with one less", b.x.dropParameter(1, 0), 0);
            due.is("undone", b.x.undo(), i > 3 ? 9 : 2 * i + 2);
            due.is("undone", b.x.undo(), i > 3 ? 8 : 2 * i + 1);
            due.is("renamed", b.x.renameLocal(0, -1, 1 + i % 2), 4);
            due.is("THIS", b.x.node(1, 1, 3), 0);
            due.is("a NUMBER", b.x.node(1, 2, 3), 0);
            due.is("the CALL", b.x.node(1, 0, 3), 2000);
            due.is("a VAR", b.x.node(0, 1, 3), -1);
            due.is("a sum", b.x.node(0, 2, 3), 0);
        }
        // Where a VAR was, THIS comes to stand, long after.
        Bench c = new Bench(-1);
        c.method(0, "a", "a-", INT, "(+ a (+ a a))");
        c.method(0, "b", "", INT, "1");
        due.is("taken out", c.x.extract(0, 0, 9), 201);
        for (int i = 0; i < 25; i++) {
            due.is("renamed", c.x.renameMethod(1, 2 + i % 3), 0);
            int[] bound = {2002, 0, -1};
            for (int place = 0; place < 3; place++) due.is("bound", c.x.node(0, place, 3), bound[place]);
        }
    }

    /** The program of swept, when the method that is gone has been so for 11 changes more. */
    private static Bench sweptLongAgo() {
        Bench b = swept();
        for (int i = 0; i < 11; i++) due.is("renamed", b.x.renameLocal(0, -1, 5 + i % 2), 0);
        return b;
    }

    private static void longGone() {
        due.is("its CALLs are not renamed", sweptLongAgo().x.renameMethod(0, 9), 0);
        due.is("nor its fields", sweptLongAgo().x.renameField(0, 4, 7), 1);
        due.is("nor has it likes", sweptLongAgo().x.extract(0, 0, 8), 201);
        due.is("nor does it get an argument more", sweptLongAgo().x.addParameter(0, 4), 0);
        due.is("nor is its argument one that matters", sweptLongAgo().x.dropParameter(0, 0), 0);
        due.is("nor are there FIELDs in it", sweptLongAgo().x.enclose(0, 4, 10, 11), 0);
        due.is("nor its MAKE and its CALL", sweptLongAgo().x.pushDown(0), 1);
        due.is("nor its name", sweptLongAgo().x.renameMethod(0, 1), 0);
        due.is("right", sweptLongAgo().x.wrong(), RIGHT);
        due.is("begin", sweptLongAgo().x.begin(), 1);
        Bench b = sweptLongAgo();
        for (int i = 9; i >= 0; i--) due.is("undone", b.x.undo(), i);
        due.badState("it stays gone", b.x::undo);
        due.outOfBounds("it is gone", () -> b.x.tell(1, 0));
        due.outOfBounds("it has no body", () -> b.x.node(1, 0, 0));
    }

    /** Methods a, and b that CALLs it, with a MAKE, a FIELD and a PUT; b is gone. */
    private static Bench swept() {
        Bench b = new Bench(-1, 0);
        b.x.fieldOf(0, 4, INT);
        b.method(0, "a", "c-", INT, "(+ e 7)");
        b.method(0, "b", "", INT, "(+ (call a new0 (seq 1 2)) (+ (field e new1) (+ (put e new0 e) (+ e 7))))");
        due.is("gone", b.x.removeDead(0), 1);
        return b;
    }

    private static void gone() {
        Bench b = swept();
        due.is("its family", b.x.tell(0, 7), 1);
        due.is("its CALLs are not renamed", b.x.renameMethod(0, 9), 0);
        due.is("nor its fields", b.x.renameField(0, 4, 5), 1);
        due.is("nor has it likes", b.x.extract(0, 2, 8), 201);
        due.is("nor does it get an argument more", b.x.addParameter(0, 4), 0);
        due.is("nor is its argument one that matters", b.x.dropParameter(0, 0), 0);
        due.is("nor are there FIELDs in it", b.x.enclose(0, 5, 10, 11), 0);
        due.is("nor its MAKE", b.x.pushDown(2), USED);
        due.is("pushed down", b.x.pushDown(0), 1);
        due.is("right", b.x.wrong(), RIGHT);
        due.outOfBounds("still gone", () -> b.x.tell(1, 0));
        for (int i = 7; i > 0; i--) due.is("undone", b.x.undo(), i);
        due.outOfBounds("still gone", () -> b.x.tell(1, 0));
        due.is("undone", b.x.undo(), 0);
        due.body(b.x, 1, "(+ (call a new0 (seq 1 2)) (+ (field e new1) (+ (put e new0 e) (+ e 7))))");
        due.is("all that it was", b.x.tell(1, 1), 1);
        Bench c = swept();
        due.is("its name is free to be told", c.method(0, "b", "", INT, "(call a new0 1)"), 2);
        due.is("another one's CALL", c.x.renameMethod(0, 9), 1);
        due.is("begun with", c.x.begin(), 2);
    }

    private static void goneAndReasons() {
        Bench b = swept();
        due.is("no USED by its MAKE and its CALL", b.x.pushDown(0), 1);
        Bench c = swept();
        due.is("no EFFECT", c.x.dropParameter(0, 0), 0);
        Bench d = new Bench(-1, 0, 1);
        d.method(2, "a", "c-", INT, "1");
        d.method(1, "a", "c-", INT, "c");
        d.method(0, "a", "c-", INT, "1");
        d.method(2, "a", "", INT, "1");
        d.method(2, "a", "c- d-", INT, "1");
        d.method(2, "b", "c-", INT, "1");
        due.is("CLASH", d.x.pullUp(0), CLASH);
        due.is("USED", d.x.dropParameter(0, 0), USED);
        due.is("CLASH", d.x.addParameter(0, 1), CLASH);
        due.is("CLASH", d.x.renameMethod(0, 1), CLASH);
        due.is("gone", d.x.removeDead(0), 5);
        due.is("no CLASH to add", d.x.addParameter(0, 1), 0);
        due.is("undone", d.x.undo(), 1);
        due.is("no USED and no CLASH to drop", d.x.dropParameter(0, 0), 0);
        due.is("undone", d.x.undo(), 1);
        due.is("no CLASH to rename", d.x.renameMethod(0, 1), 0);
        due.is("no CLASH to pull up", d.x.pullUp(0), 1);
        due.is("none above", d.x.pullUp(0), 0);
        due.is("undone", d.x.undo(), 3);
        due.is("no CHANGES to push down", d.x.pushDown(0), 1);
        due.is("its class", d.x.tell(0, 0), 2);
        Bench e = new Bench(-1, 0, 1);
        e.method(0, "a", "", INT, "1");
        e.method(2, "a", "", INT, "1");
        due.is("CHANGES", e.x.pullUp(1), SmithyBench.CHANGES);
        due.is("gone", e.x.removeDead(1), 1);
        due.is("no CHANGES", e.x.pullUp(1), 1);
        // A body that is gone is too large for none.
        Bench f = new Bench(-1);
        f.x.fieldOf(0, 0, INT);
        int v = f.x.var(0), sum = v;
        for (int i = 1; i < 25; i++) sum = f.x.two(2, sum, v);
        f.x.method(0, 0, 1, -1, INT, sum);
        f.x.method(0, 1, -1, -1, INT, v);
        due.is("TOO_MANY", f.x.renameField(0, 0, 1), SmithyBench.TOO_MANY);
        due.is("gone", f.x.removeDead(1), 1);
        due.is("not any more", f.x.renameField(0, 0, 1), 1);
    }
}
