/**
 * A workshop that changes programs of a small language without changing what they do.
 *
 * A body is kept as a row of nodes, each ahead of its parts, so that the place of a node is its
 * index and all work on bodies is done by loops; nothing in this file calls itself.
 */
public final class SmithyBench {
    public static final int NONE = -1;
    public static final int INT = -1, NEVER = -2;
    public static final int NUMBER = 0, OBJECT = 1, NOTHING = 2, RAISED = 3, LOST = 4, ENDLESS = 5;
    public static final int CLASH = -1, CAPTURE = -2, OVERRIDDEN = -3, RECURSIVE = -4, OUTPUT = -5, TOO_MANY = -6, EFFECT = -7, INVISIBLE = -8, USED = -9, NOT_THAT = -10, CHANGES = -11;

    private static final int MOST_TOLD = 150, MOST_IN_BODY = 60, MOST_CLASSES = 6, MOST_METHODS = 24;
    private static final int MOST_NAMES = 16, MOST_UNDONE = 10, MOST_STEPS = 500, MOST_FRAMES = 20;
    // A body of 60 nodes with another one in it, all made plain, stays below this.
    private static final int MOST_ON_SHEET = 256;
    private static final int WRONG = -3, ABSENT = -3;
    private static final int FIELD_BASE = 1000, METHOD_BASE = 2000;

    private static final int KIND_NUMBER = 0, KIND_VAR = 1, KIND_THIS = 2, KIND_FIELD = 3, KIND_PUT = 4, KIND_LET = 5, KIND_SET = 6;
    private static final int KIND_CALL = 7, KIND_MAKE = 8, KIND_SEQ = 9, KIND_TEST = 10, KIND_TWO = 11, KIND_RAISE = 12, KIND_GUARD = 13;

    private final Told told = new Told();
    private final Checker checker = new Checker();
    private final Machine machine = new Machine();
    private final Renamer renamer = new Renamer();
    private final Inliner inliner = new Inliner(checker);
    private final Extractor extractor = new Extractor();
    private final Signatures signatures = new Signatures();
    private final Mover mover = new Mover(checker);
    private final Program begun = new Program();
    private final Program[] past = new Program[MOST_UNDONE];
    private Program now = new Program();
    private Program next = new Program();
    private boolean hasBegun;
    private int undoable;

    public SmithyBench() {
        for (int i = 0; i < MOST_UNDONE; i++) past[i] = new Program();
    }

    // ---- nodes

    public int number(int number) throws IllegalStateException {
        requireRoomForNode();
        return told.add(KIND_NUMBER, number, NONE, NONE, NONE);
    }

    public int var(int name) throws IllegalArgumentException, IllegalStateException {
        requireName(name);
        requireRoomForNode();
        return told.add(KIND_VAR, name, NONE, NONE, NONE);
    }

    public int self() throws IllegalStateException {
        requireRoomForNode();
        return told.add(KIND_THIS, 0, NONE, NONE, NONE);
    }

    public int field(int object, int name) throws IndexOutOfBoundsException, IllegalArgumentException, IllegalStateException {
        requireNode(object);
        requireName(name);
        requireRoomForNode();
        return told.add(KIND_FIELD, name, object, NONE, NONE);
    }

    public int put(int object, int name, int value) throws IndexOutOfBoundsException, IllegalArgumentException, IllegalStateException {
        requireNode(object);
        requireNode(value);
        requireName(name);
        requireRoomForNode();
        return told.add(KIND_PUT, name, object, value, NONE);
    }

    public int let(int name, int value, int body) throws IndexOutOfBoundsException, IllegalArgumentException, IllegalStateException {
        requireNode(value);
        requireNodeOrNone(body);
        requireName(name);
        requireRoomForNode();
        return told.add(body == NONE ? KIND_SET : KIND_LET, name, value, body, NONE);
    }

    public int call(int object, int name, int first, int second) throws IndexOutOfBoundsException, IllegalArgumentException, IllegalStateException {
        requireNode(object);
        requireNodeOrNone(first);
        requireNodeOrNone(second);
        requireName(name);
        if (first == NONE && second != NONE) throw new IllegalArgumentException("a second argument without a first one");
        requireRoomForNode();
        return told.add(KIND_CALL, name, object, first, second);
    }

    public int make(int of) throws IndexOutOfBoundsException, IllegalStateException {
        requireClass(of);
        requireRoomForNode();
        return told.add(KIND_MAKE, of, NONE, NONE, NONE);
    }

    public int two(int kind, int first, int second) throws IndexOutOfBoundsException, IllegalArgumentException, IllegalStateException {
        requireNode(first);
        requireNode(second);
        if (kind < 0 || kind > 5) throw new IllegalArgumentException("no such kind");
        requireRoomForNode();
        if (kind == 0) return told.add(KIND_SEQ, 0, first, second, NONE);
        if (kind == 1) return told.add(KIND_GUARD, 0, first, second, NONE);
        return told.add(KIND_TWO, kind - 2, first, second, NONE);
    }

    public int test(int condition, int so, int not) throws IndexOutOfBoundsException, IllegalStateException {
        requireNode(condition);
        requireNode(so);
        requireNode(not);
        requireRoomForNode();
        return told.add(KIND_TEST, 0, condition, so, not);
    }

    public int raise(int number) throws IndexOutOfBoundsException, IllegalStateException {
        requireNode(number);
        requireRoomForNode();
        return told.add(KIND_RAISE, 0, number, NONE, NONE);
    }

    // ---- the program

    public int classOf(int parent) throws IndexOutOfBoundsException, IllegalStateException {
        if (parent != NONE) requireClass(parent);
        if (now.classes >= MOST_CLASSES) throw new IllegalStateException("no room for another class");
        undoable = 0;
        return now.addClass(parent);
    }

    public int fieldOf(int of, int name, int type) throws IndexOutOfBoundsException, IllegalArgumentException, IllegalStateException {
        requireClass(of);
        requireType(type);
        requireName(name);
        if (now.hasAkinField(of, name)) throw new IllegalStateException("an akin class has a field of that name");
        undoable = 0;
        return now.addField(of, name, type);
    }

    public int method(int of, int name, int first, int second, int returns, int body) throws IndexOutOfBoundsException, IllegalArgumentException, IllegalStateException {
        requireClass(of);
        requireType(typeOfParameter(first));
        requireType(typeOfParameter(second));
        requireType(returns);
        requireNode(body);
        requireName(name);
        requireParameters(first, second);
        int arity = second != NONE ? 2 : first != NONE ? 1 : 0;
        if (told.weight[body] > MOST_IN_BODY) throw new IllegalStateException("the body has too many nodes");
        if (now.methodIn(of, name, arity) != NONE) throw new IllegalStateException("the class has such a method");
        if (now.methods >= MOST_METHODS) throw new IllegalStateException("no room for another method");
        undoable = 0;
        int added = now.addMethod(of, name, returns);
        if (arity > 0) now.addParameterTo(added, first % 100, typeOfParameter(first));
        if (arity > 1) now.addParameterTo(added, second % 100, typeOfParameter(second));
        told.unfold(body, now.bodies[added]);
        return added;
    }

    public int wrong() {
        checker.isRight(now);
        return now.wrongMethod;
    }

    public int begin() throws IllegalStateException {
        requireRight(now);
        undoable = 0;
        begun.copyFrom(now);
        hasBegun = true;
        return now.countMethods();
    }

    // ---- changing

    public int renameMethod(int method, int name) throws IndexOutOfBoundsException, IllegalArgumentException, IllegalStateException {
        requireMethod(now, method);
        requireOtherName(name, now.name[method]);
        requireRight(now);
        return settle(renamer.nameMethod(now, plan(), method, name));
    }

    public int renameField(int of, int field, int name) throws IndexOutOfBoundsException, IllegalArgumentException, IllegalStateException {
        requireField(of, field);
        requireOtherName(name, field);
        requireRight(now);
        return settle(renamer.nameField(now, plan(), of, field, name));
    }

    public int renameLocal(int method, int place, int name) throws IndexOutOfBoundsException, IllegalArgumentException, IllegalStateException {
        requireMethod(now, method);
        if (place < 0) requireParameter(method, -1 - place);
        else requirePlace(method, place);
        requireOtherName(name, now.nameOfLocal(method, place));
        requireRight(now);
        return settle(renamer.nameLocal(now, plan(), method, place, name));
    }

    public int inline(int method, int place) throws IndexOutOfBoundsException, IllegalStateException {
        requireMethod(now, method);
        requirePlace(method, place);
        requireRight(now);
        return settle(inliner.replaceCall(now, plan(), method, place));
    }

    public int extract(int method, int place, int name) throws IndexOutOfBoundsException, IllegalArgumentException, IllegalStateException {
        requireMethod(now, method);
        requirePlace(method, place);
        requireName(name);
        requireRight(now);
        return settle(extractor.takeOut(now, plan(), method, place, name));
    }

    public int addParameter(int method, int number) throws IndexOutOfBoundsException, IllegalStateException {
        requireMethod(now, method);
        requireRight(now);
        return settle(signatures.widen(now, plan(), method, number));
    }

    public int dropParameter(int method, int parameter) throws IndexOutOfBoundsException, IllegalStateException {
        requireMethod(now, method);
        requireParameter(method, parameter);
        requireRight(now);
        return settle(signatures.narrow(now, plan(), method, parameter));
    }

    public int pullUp(int method) throws IndexOutOfBoundsException, IllegalStateException {
        requireMethod(now, method);
        requireRight(now);
        return settle(mover.moveUp(now, plan(), method));
    }

    public int pushDown(int method) throws IndexOutOfBoundsException, IllegalStateException {
        requireMethod(now, method);
        requireRight(now);
        return settle(mover.moveDown(now, plan(), method));
    }

    public int enclose(int of, int field, int getter, int setter) throws IndexOutOfBoundsException, IllegalArgumentException, IllegalStateException {
        requireField(of, field);
        requireName(getter);
        requireName(setter);
        requireRight(now);
        return settle(mover.hide(now, plan(), of, field, getter, setter));
    }

    public int removeDead(int method) throws IndexOutOfBoundsException, IllegalStateException {
        requireMethod(now, method);
        requireRight(now);
        return settle(mover.sweep(now, plan(), method));
    }

    public int undo() throws IllegalStateException {
        if (undoable <= 0) throw new IllegalStateException("no change can be undone");
        undoable--;
        Program undone = now;
        now = past[undoable];
        past[undoable] = undone;
        return undoable;
    }

    // ---- questions

    public int tell(int method, int what) throws IndexOutOfBoundsException, IllegalArgumentException {
        requireMethod(now, method);
        switch (what) {
            case 0: return now.owner[method];
            case 1: return now.name[method];
            case 2: return now.arity[method];
            case 3: return now.paramName[method * 2];
            case 4: return now.paramName[method * 2 + 1];
            case 5: return now.returns[method];
            case 6: return now.bodies[method].size;
            case 7: return Integer.bitCount(now.family(method));
            default: throw new IllegalArgumentException("no such question of a method");
        }
    }

    public int node(int method, int place, int what) throws IndexOutOfBoundsException, IllegalArgumentException {
        requireMethod(now, method);
        requirePlace(method, place);
        Body body = now.bodies[method];
        switch (what) {
            case 0: return body.kind[place];
            case 1: return body.value[place];
            case 2: return checker.isRight(now) ? body.type[place] : 0;
            case 3: return checker.isRight(now) ? body.bound[place] : 0;
            default: throw new IllegalArgumentException("no such question of a node");
        }
    }

    public int run(int method, int of, int first, int second, boolean isBegun) throws IndexOutOfBoundsException, IllegalArgumentException, IllegalStateException {
        if (isBegun && !hasBegun) throw new IllegalStateException("no program was begun with");
        Program program = isBegun ? begun : now;
        requireMethod(program, method);
        if (!program.isClass(of)) throw new IndexOutOfBoundsException("no such class");
        if (!program.isAtOrBelow(of, program.owner[method])) throw new IllegalArgumentException("the class is not at or below that of the method");
        for (int i = 0; i < program.arity[method]; i++) {
            if (program.paramType[method * 2 + i] != INT) throw new IllegalArgumentException("a parameter is not a number");
        }
        requireRight(program);
        return machine.perform(program, method, of, first, second);
    }

    public int value() {
        return machine.answer;
    }

    public int steps() {
        return machine.taken;
    }

    // ---- what calls require

    private void requireRoomForNode() {
        if (told.count >= MOST_TOLD) throw new IllegalStateException("no room for another node");
    }

    private void requireNode(int node) {
        if (node < 0 || node >= told.count) throw new IndexOutOfBoundsException("no such node");
    }

    private void requireNodeOrNone(int node) {
        if (node != NONE) requireNode(node);
    }

    private void requireName(int name) {
        if (name < 0 || name >= MOST_NAMES) throw new IllegalArgumentException("no such name");
    }

    private void requireOtherName(int name, int own) {
        requireName(name);
        if (name == own) throw new IllegalArgumentException("that is its name already");
    }

    private void requireClass(int of) {
        if (!now.isClass(of)) throw new IndexOutOfBoundsException("no such class");
    }

    private void requireType(int type) {
        if (type != INT) requireClass(type);
    }

    private void requireParameters(int first, int second) {
        if (isOddParameter(first) || isOddParameter(second)) throw new IllegalArgumentException("no such parameter");
        if (second == NONE) return;
        if (first == NONE) throw new IllegalArgumentException("a second parameter without a first one");
        if (first % 100 == second % 100) throw new IllegalArgumentException("both parameters have one name");
    }

    private void requireMethod(Program program, int method) {
        if (!program.hasMethod(method)) throw new IndexOutOfBoundsException("no such method");
    }

    private void requirePlace(int method, int place) {
        if (place < 0 || place >= now.bodies[method].size) throw new IndexOutOfBoundsException("no such place");
    }

    private void requireParameter(int method, int parameter) {
        if (parameter < 0 || parameter >= now.arity[method]) throw new IndexOutOfBoundsException("no such parameter");
    }

    private void requireField(int of, int field) {
        requireClass(of);
        if (now.typeOfField(of, field) == ABSENT) throw new IndexOutOfBoundsException("no such field");
    }

    private void requireRight(Program program) {
        if (!checker.isRight(program)) throw new IllegalStateException("the program is not right");
    }

    // A parameter is told as 100 times its type and its name; what is below 0 has no class to look for.
    private static int typeOfParameter(int told) {
        return told < 0 ? INT : told / 100 - 1;
    }

    private static boolean isOddParameter(int told) {
        return told < NONE || (told >= 0 && told % 100 >= MOST_NAMES);
    }

    // ---- what was

    // Changes are written to a copy, so that one that is refused half way leaves nothing behind.
    private Program plan() {
        next.copyFrom(now);
        return next;
    }

    private int settle(int answer) {
        if (answer < 0) return answer;
        if (undoable == MOST_UNDONE) forgetOldest();
        Program spare = past[undoable];
        past[undoable] = now;
        undoable++;
        now = next;
        next = spare;
        return answer;
    }

    private void forgetOldest() {
        Program oldest = past[0];
        for (int i = 1; i < MOST_UNDONE; i++) past[i - 1] = past[i];
        past[MOST_UNDONE - 1] = oldest;
        undoable = MOST_UNDONE - 1;
    }

    /** The nodes that were told, each made of earlier ones. */
    private static final class Told {
        final int[] kind = new int[MOST_TOLD];
        final int[] value = new int[MOST_TOLD];
        final int[] parts = new int[MOST_TOLD];
        final int[] part = new int[MOST_TOLD * 3];
        final int[] weight = new int[MOST_TOLD];
        final int[] waiting = new int[MOST_IN_BODY * 3];
        int count;

        int add(int itsKind, int itsValue, int first, int second, int third) {
            int added = count;
            kind[added] = itsKind;
            value[added] = itsValue;
            parts[added] = 0;
            weight[added] = 1;
            addPart(added, first);
            addPart(added, second);
            addPart(added, third);
            count++;
            return added;
        }

        // Nodes may be parts of many others, so a tree can have more nodes than an int counts.
        private void addPart(int node, int part) {
            if (part == NONE) return;
            this.part[node * 3 + parts[node]] = part;
            parts[node]++;
            weight[node] = Math.min(MOST_IN_BODY + 1, weight[node] + weight[part]);
        }

        void unfold(int root, Body body) {
            body.clear();
            waiting[0] = root;
            int open = 1;
            for (int made = 0; made < MOST_IN_BODY && open > 0; made++) {
                open--;
                int node = waiting[open];
                body.add(kind[node], value[node], parts[node]);
                for (int i = parts[node] - 1; i >= 0; i--) {
                    waiting[open] = part[node * 3 + i];
                    open++;
                }
            }
        }
    }

    /** A tree of nodes, each ahead of its parts, with what the checker finds of each. */
    private static final class Body {
        final int[] kind;
        final int[] value;
        final int[] parts;
        final int[] end;
        final int[] type;
        final int[] bound;
        final int room;
        int size;

        Body(int room) {
            this.room = room;
            // One more than can be used: the place behind the last node may be looked at.
            kind = new int[room + 1];
            value = new int[room + 1];
            parts = new int[room + 1];
            end = new int[room + 1];
            type = new int[room + 1];
            bound = new int[room + 1];
        }

        void clear() {
            size = 0;
        }

        void add(int itsKind, int itsValue, int itsParts) {
            if (size >= room) return;
            kind[size] = itsKind;
            value[size] = itsValue;
            parts[size] = itsParts;
            size++;
        }

        void addCopy(Body from, int place) {
            add(from.kind[place], from.value[place], from.parts[place]);
        }

        void addNamed(Body from, int place, int name) {
            add(from.kind[place], name, from.parts[place]);
        }

        void addPlain(Body from, int place, int name) {
            boolean isRead = from.kind[place] == KIND_VAR;
            add(isRead ? KIND_FIELD : KIND_PUT, name, from.parts[place] + 1);
            add(KIND_THIS, 0, 0);
        }

        void addRange(Body from, int start, int stop) {
            for (int i = start; i < stop; i++) addCopy(from, i);
        }

        /** Takes all nodes of another body, if there is room; says whether there was. */
        boolean take(Body from) {
            if (from.size > room) return false;
            System.arraycopy(from.kind, 0, kind, 0, from.size);
            System.arraycopy(from.value, 0, value, 0, from.size);
            System.arraycopy(from.parts, 0, parts, 0, from.size);
            size = from.size;
            return true;
        }

        void measure() {
            for (int i = size - 1; i >= 0; i--) end[i] = part(i, parts[i]);
        }

        /** Where a part of a node begins; behind the last part, where the node ends. */
        int part(int place, int which) {
            int start = place + 1;
            for (int i = 0; i < which && start < size; i++) start = end[start];
            return start;
        }

        /** The innermost LET of a name in whose b a place stands. */
        int letAround(int place, int name) {
            for (int i = place - 1; i >= 0; i--) {
                if (kind[i] == KIND_LET && value[i] == name && place < end[i] && place >= end[i + 1]) return i;
            }
            return NONE;
        }

        boolean isVariable(int place) {
            return kind[place] == KIND_VAR || kind[place] == KIND_SET;
        }

        boolean isLocal(int place) {
            return isVariable(place) && bound[place] < FIELD_BASE;
        }

        boolean isOfField(int place) {
            return isVariable(place) && bound[place] >= FIELD_BASE;
        }

        /** Whether a node is bound to a parameter, or a LET, that is not within the node at root. */
        boolean isOuter(int place, int root) {
            return isLocal(place) && bound[place] < root;
        }

        boolean isBoundToLocal(int place, int local) {
            return isLocal(place) && bound[place] == local;
        }

        boolean isBoundToField(int place, int of, int name) {
            boolean canBe = isVariable(place) || kind[place] == KIND_FIELD || kind[place] == KIND_PUT;
            return canBe && bound[place] == FIELD_BASE + of && value[place] == name;
        }

        boolean isCallOf(int place, int family) {
            return kind[place] == KIND_CALL && (family >>> (bound[place] - METHOD_BASE) & 1) == 1;
        }

        boolean isOfThis(int place) {
            return parts[place] > 0 && kind[place + 1] == KIND_THIS;
        }

        int names() {
            int mask = 0;
            for (int i = 0; i < size; i++) {
                int its = kind[i];
                if (its == KIND_VAR || (its >= KIND_FIELD && its <= KIND_CALL)) mask |= 1 << value[i];
            }
            return mask;
        }
    }

    /** Classes, fields and methods. A set of methods is an int with a bit for each. */
    private static final class Program {
        final int[] parent = new int[MOST_CLASSES];
        final int[] above = new int[MOST_CLASSES];
        final int[] fieldType = new int[MOST_CLASSES * MOST_NAMES];
        final int[] owner = new int[MOST_METHODS];
        final int[] name = new int[MOST_METHODS];
        final int[] arity = new int[MOST_METHODS];
        final int[] paramName = new int[MOST_METHODS * 2];
        final int[] paramType = new int[MOST_METHODS * 2];
        final int[] returns = new int[MOST_METHODS];
        final Body[] bodies = new Body[MOST_METHODS];
        int classes;
        int methods;
        int there;
        int wrongMethod = NONE;
        boolean isChecked;

        Program() {
            for (int i = 0; i < MOST_METHODS; i++) bodies[i] = new Body(MOST_IN_BODY);
        }

        void copyFrom(Program other) {
            classes = other.classes;
            methods = other.methods;
            there = other.there;
            isChecked = false;
            System.arraycopy(other.parent, 0, parent, 0, MOST_CLASSES);
            System.arraycopy(other.above, 0, above, 0, MOST_CLASSES);
            System.arraycopy(other.fieldType, 0, fieldType, 0, MOST_CLASSES * MOST_NAMES);
            System.arraycopy(other.owner, 0, owner, 0, MOST_METHODS);
            System.arraycopy(other.name, 0, name, 0, MOST_METHODS);
            System.arraycopy(other.arity, 0, arity, 0, MOST_METHODS);
            System.arraycopy(other.paramName, 0, paramName, 0, MOST_METHODS * 2);
            System.arraycopy(other.paramType, 0, paramType, 0, MOST_METHODS * 2);
            System.arraycopy(other.returns, 0, returns, 0, MOST_METHODS);
            for (int m = 0; m < methods; m++) {
                if (isThere(m)) bodies[m].take(other.bodies[m]);
            }
        }

        int addClass(int itsParent) {
            int added = classes;
            parent[added] = itsParent;
            above[added] = 1 << added | (itsParent == NONE ? 0 : above[itsParent]);
            for (int i = 0; i < MOST_NAMES; i++) fieldType[added * MOST_NAMES + i] = ABSENT;
            classes++;
            isChecked = false;
            return added;
        }

        int addField(int of, int itsName, int type) {
            fieldType[of * MOST_NAMES + itsName] = type;
            isChecked = false;
            int count = 0;
            for (int i = 0; i < MOST_NAMES; i++) {
                if (fieldType[of * MOST_NAMES + i] != ABSENT) count++;
            }
            return count;
        }

        void moveField(int of, int from, int to) {
            fieldType[of * MOST_NAMES + to] = fieldType[of * MOST_NAMES + from];
            fieldType[of * MOST_NAMES + from] = ABSENT;
        }

        int addMethod(int of, int itsName, int itsReturns) {
            int added = methods;
            there |= 1 << added;
            owner[added] = of;
            name[added] = itsName;
            arity[added] = 0;
            paramName[added * 2] = NONE;
            paramName[added * 2 + 1] = NONE;
            returns[added] = itsReturns;
            bodies[added].clear();
            methods++;
            isChecked = false;
            return added;
        }

        void addParameterTo(int method, int itsName, int type) {
            int at = method * 2 + arity[method];
            paramName[at] = itsName;
            paramType[at] = type;
            arity[method]++;
        }

        void dropParameterOf(int method, int parameter) {
            if (parameter == 0) {
                paramName[method * 2] = paramName[method * 2 + 1];
                paramType[method * 2] = paramType[method * 2 + 1];
            }
            paramName[method * 2 + 1] = NONE;
            arity[method]--;
        }

        void addMethodLike(int method, int of) {
            int added = addMethod(of, name[method], returns[method]);
            for (int i = 0; i < arity[method]; i++) addParameterTo(added, paramName[method * 2 + i], paramType[method * 2 + i]);
            bodies[added].take(bodies[method]);
        }

        boolean isClass(int of) {
            return of >= 0 && of < classes;
        }

        boolean isThere(int method) {
            return (there >>> method & 1) == 1;
        }

        boolean hasMethod(int method) {
            return method >= 0 && method < methods && isThere(method);
        }

        int countMethods() {
            return Integer.bitCount(there);
        }

        boolean isAtOrBelow(int low, int high) {
            return (above[low] >>> high & 1) == 1;
        }

        boolean areAkin(int one, int other) {
            return isAtOrBelow(one, other) || isAtOrBelow(other, one);
        }

        boolean fits(int type, int wanted) {
            if (type == NEVER || type == wanted) return true;
            return type >= 0 && wanted >= 0 && (above[type] >>> wanted & 1) == 1;
        }

        int typeOfField(int of, int itsName) {
            return itsName < 0 || itsName >= MOST_NAMES ? ABSENT : fieldType[of * MOST_NAMES + itsName];
        }

        /** The class, at or above the one that is told, that has a field. */
        int holderOf(int of, int itsName) {
            for (int c = of; c >= 0; c--) {
                if ((above[of] >>> c & 1) == 1 && fieldType[c * MOST_NAMES + itsName] != ABSENT) return c;
            }
            return NONE;
        }

        boolean hasAkinField(int of, int itsName) {
            for (int c = 0; c < classes; c++) {
                if (areAkin(c, of) && fieldType[c * MOST_NAMES + itsName] != ABSENT) return true;
            }
            return false;
        }

        boolean isCalled(int method, int itsName, int itsArity) {
            return (there >>> method & 1) == 1 && name[method] == itsName && arity[method] == itsArity;
        }

        int methodIn(int of, int itsName, int itsArity) {
            for (int m = 0; m < methods; m++) {
                if (owner[m] == of && isCalled(m, itsName, itsArity)) return m;
            }
            return NONE;
        }

        /** The method that a class has or, without, that of the next one above that has one. */
        int methodFor(int of, int itsName, int itsArity) {
            int found = NONE;
            for (int m = 0; m < methods; m++) {
                // Parents are earlier classes: of those above, the next one is the highest number.
                boolean isSuch = (there >>> m & 1) == 1 && name[m] == itsName && arity[m] == itsArity;
                if (isSuch && (above[of] >>> owner[m] & 1) == 1 && (found == NONE || owner[m] > owner[found])) found = m;
            }
            return found;
        }

        boolean hasAkinMethod(int of, int itsName, int itsArity) {
            for (int m = 0; m < methods; m++) {
                if (isCalled(m, itsName, itsArity) && areAkin(owner[m], of)) return true;
            }
            return false;
        }

        boolean hasMethodBelow(int of, int itsName, int itsArity) {
            for (int m = 0; m < methods; m++) {
                if (isCalled(m, itsName, itsArity) && owner[m] != of && isAtOrBelow(owner[m], of)) return true;
            }
            return false;
        }

        boolean overrides(int low, int high) {
            return isCalled(low, name[high], arity[high]) && owner[low] != owner[high] && isAtOrBelow(owner[low], owner[high]);
        }

        boolean hasTypesOf(int method, int other) {
            for (int i = 0; i < arity[method]; i++) {
                if (paramType[method * 2 + i] != paramType[other * 2 + i]) return false;
            }
            return returns[method] == returns[other];
        }

        int family(int method) {
            int family = 1 << method;
            // Each round that adds nothing is the last one, and each other one adds a method.
            for (int round = 0; round < MOST_METHODS; round++) {
                int larger = withAkin(family, method);
                if (larger == family) return family;
                family = larger;
            }
            return family;
        }

        private int withAkin(int family, int method) {
            int larger = family;
            for (int m = 0; m < methods; m++) {
                if (!isCalled(m, name[method], arity[method])) continue;
                for (int k = 0; k < methods; k++) {
                    if ((family >>> k & 1) == 1 && areAkin(owner[m], owner[k])) larger |= 1 << m;
                }
            }
            return larger;
        }

        boolean isFree(int family, int itsName, int itsArity) {
            for (int m = 0; m < methods; m++) {
                if ((family >>> m & 1) == 1 && hasAkinMethod(owner[m], itsName, itsArity)) return false;
            }
            return true;
        }

        int parameterCalled(int method, int itsName) {
            for (int i = 0; i < arity[method]; i++) {
                if (paramName[method * 2 + i] == itsName) return i;
            }
            return NONE;
        }

        /** The name of a LET, or of a parameter told as -1 or -2; NONE for any other node. */
        int nameOfLocal(int method, int place) {
            if (place < 0) return paramName[method * 2 - 1 - place];
            return bodies[method].kind[place] == KIND_LET ? bodies[method].value[place] : NONE;
        }

        int typeOfLocal(int method, int local) {
            return local < 0 ? paramType[method * 2 - 1 - local] : bodies[method].type[local + 1];
        }

        /** Whether a place stands where a local has a name. */
        boolean hasLocal(int method, int place, int itsName) {
            return parameterCalled(method, itsName) != NONE || bodies[method].letAround(place, itsName) != NONE;
        }

        int namesIn(int method) {
            int mask = bodies[method].names();
            for (int i = 0; i < arity[method]; i++) mask |= 1 << paramName[method * 2 + i];
            return mask;
        }

        /** Which methods can be reached from one, itself only if its CALLs lead back to it. */
        int reach(int method) {
            int reached = callees(method);
            int looked = 0;
            for (int round = 0; round < MOST_METHODS && looked != reached; round++) {
                int fresh = reached & ~looked;
                looked = reached;
                for (int m = 0; m < methods; m++) {
                    if ((fresh >>> m & 1) == 1) reached |= callees(m);
                }
            }
            return reached;
        }

        private int callees(int method) {
            Body body = bodies[method];
            int mask = 0;
            for (int i = 0; i < body.size; i++) {
                if (body.kind[i] != KIND_CALL) continue;
                int callee = body.bound[i] - METHOD_BASE;
                mask |= 1 << callee;
                for (int m = 0; m < methods; m++) {
                    if (overrides(m, callee) && isAtOrBelow(owner[m], body.type[i + 1])) mask |= 1 << m;
                }
            }
            return mask;
        }
    }

    /** Finds types and bindings, and whether a program is right. */
    private static final class Checker {
        final int[] open = new int[MOST_ON_SHEET];

        boolean isRight(Program program) {
            if (program.isChecked) return program.wrongMethod == NONE;
            int wrong = NONE;
            for (int m = 0; m < program.methods && wrong == NONE; m++) {
                if (!program.isThere(m)) continue;
                if (!isRightBody(program, m, program.bodies[m]) || overridesWrongly(program, m)) wrong = m;
            }
            program.wrongMethod = wrong;
            program.isChecked = true;
            return wrong == NONE;
        }

        private boolean overridesWrongly(Program program, int method) {
            for (int m = 0; m < program.methods; m++) {
                if (program.isThere(m) && program.overrides(method, m) && !program.hasTypesOf(method, m)) return true;
            }
            return false;
        }

        /** Looks at nodes behind all their parts, and at the v of a LET ahead of its b. */
        boolean isRightBody(Program program, int method, Body body) {
            body.measure();
            int depth = 0;
            for (int i = 0; i < body.size; i++) {
                open[depth] = i;
                depth++;
                for (; depth > 0 && body.end[open[depth - 1]] == i + 1; depth--) {
                    int place = open[depth - 1];
                    body.bound[place] = 0;
                    body.type[place] = typeAt(program, method, body, place);
                    if (body.type[place] == WRONG) return false;
                }
            }
            return program.fits(body.type[0], program.returns[method]);
        }

        private static int typeAt(Program program, int method, Body body, int place) {
            int first = body.type[body.part(place, 0)];
            int second = body.type[body.part(place, 1)];
            switch (body.kind[place]) {
                case KIND_NUMBER: return INT;
                case KIND_VAR:
                case KIND_SET: return typeOfVariable(program, method, body, place);
                case KIND_THIS: return program.owner[method];
                case KIND_FIELD:
                case KIND_PUT: return typeOfAccess(program, body, place);
                case KIND_LET:
                case KIND_SEQ: return second;
                case KIND_CALL: return typeOfCall(program, body, place);
                case KIND_MAKE: return body.value[place];
                case KIND_TEST: return isNumber(first) ? joined(program, second, body.type[body.part(place, 2)]) : WRONG;
                case KIND_TWO: return isNumber(first) && isNumber(second) ? INT : WRONG;
                case KIND_RAISE: return isNumber(first) ? NEVER : WRONG;
                case KIND_GUARD: return joined(program, first, second);
                default: return WRONG;
            }
        }

        private static boolean isNumber(int type) {
            return type == INT || type == NEVER;
        }

        private static int joined(Program program, int first, int second) {
            if (program.fits(second, first)) return first;
            return program.fits(first, second) ? second : WRONG;
        }

        private static int typeOfVariable(Program program, int method, Body body, int place) {
            int name = body.value[place];
            int let = body.letAround(place, name);
            int parameter = program.parameterCalled(method, name);
            int holder = program.holderOf(program.owner[method], name);
            int type = WRONG;
            if (let != NONE) {
                body.bound[place] = let;
                type = body.type[let + 1];
            } else if (parameter != NONE) {
                body.bound[place] = -1 - parameter;
                type = program.paramType[method * 2 + parameter];
            } else if (holder != NONE) {
                body.bound[place] = FIELD_BASE + holder;
                type = program.typeOfField(holder, name);
            }
            boolean isRead = body.kind[place] == KIND_VAR;
            return isRead || program.fits(body.type[place + 1], type) ? type : WRONG;
        }

        private static int typeOfAccess(Program program, Body body, int place) {
            int object = body.type[place + 1];
            int holder = object < 0 ? NONE : program.holderOf(object, body.value[place]);
            if (holder == NONE) return WRONG;
            body.bound[place] = FIELD_BASE + holder;
            int type = program.typeOfField(holder, body.value[place]);
            boolean isRead = body.kind[place] == KIND_FIELD;
            return isRead || program.fits(body.type[body.part(place, 1)], type) ? type : WRONG;
        }

        private static int typeOfCall(Program program, Body body, int place) {
            int object = body.type[place + 1];
            int arity = body.parts[place] - 1;
            int callee = object < 0 ? NONE : program.methodFor(object, body.value[place], arity);
            if (callee == NONE) return WRONG;
            body.bound[place] = METHOD_BASE + callee;
            for (int i = 0; i < arity; i++) {
                if (!program.fits(body.type[body.part(place, i + 1)], program.paramType[callee * 2 + i])) return WRONG;
            }
            return program.returns[callee];
        }
    }

    /** Runs a method. The nodes that have begun and not ended are kept in rows, outermost first. */
    private static final class Machine {
        static final int RUNNING = -1, NO_OBJECT = -1;
        // A node begins once and goes on at most once for each of its parts and for a method that it runs.
        static final int MOST_TURNS = 10000;
        static final int LOCALS = MOST_IN_BODY + 2;

        final int[] place = new int[MOST_STEPS + 1];
        final int[] stage = new int[MOST_STEPS + 1];
        final int[] frame = new int[MOST_STEPS + 1];
        final int[] height = new int[MOST_STEPS + 1];
        final int[] operand = new int[MOST_STEPS + 1];
        final int[] frameMethod = new int[MOST_FRAMES];
        final int[] frameObject = new int[MOST_FRAMES];
        final int[] local = new int[MOST_FRAMES * LOCALS];
        final int[] heapClass = new int[MOST_STEPS + 1];
        final int[] heapField = new int[(MOST_STEPS + 1) * MOST_NAMES];
        Program program;
        int open;
        int operands;
        int frames;
        int objects;
        int taken;
        int how;
        int answer;

        int perform(Program itsProgram, int method, int of, int first, int second) {
            program = itsProgram;
            open = 0;
            operands = 0;
            frames = 0;
            objects = 0;
            taken = 0;
            answer = 0;
            how = RUNNING;
            enter(method, create(of), first, second);
            for (int turn = 0; turn < MOST_TURNS && open > 0 && how == RUNNING; turn++) goOn();
            if (how == RUNNING) conclude(operand[0], program.returns[method]);
            return how;
        }

        private void conclude(int result, int type) {
            if (type == INT) {
                how = NUMBER;
                answer = result;
            } else if (result == NO_OBJECT) {
                how = NOTHING;
            } else {
                how = OBJECT;
                answer = heapClass[result];
            }
        }

        private int create(int of) {
            int made = objects;
            heapClass[made] = of;
            for (int name = 0; name < MOST_NAMES; name++) {
                int holder = program.holderOf(of, name);
                boolean isObject = holder != NONE && program.typeOfField(holder, name) != INT;
                heapField[made * MOST_NAMES + name] = isObject ? NO_OBJECT : 0;
            }
            objects++;
            return made;
        }

        private void enter(int method, int object, int first, int second) {
            if (frames >= MOST_FRAMES) {
                how = ENDLESS;
                return;
            }
            frameMethod[frames] = method;
            frameObject[frames] = object;
            local[frames * LOCALS + 1] = first;
            local[frames * LOCALS] = second;
            frames++;
            start(0);
        }

        private void start(int itsPlace) {
            if (taken >= MOST_STEPS) {
                how = ENDLESS;
                return;
            }
            place[open] = itsPlace;
            stage[open] = 0;
            frame[open] = frames;
            height[open] = operands;
            taken++;
            open++;
        }

        private void finish(int result) {
            open--;
            operands = height[open];
            operand[operands] = result;
            operands++;
        }

        private void goOn() {
            int top = open - 1;
            // What has run within this node is over, so its own frame is the innermost one again.
            frames = frame[top];
            int at = place[top];
            int done = stage[top];
            stage[top]++;
            Body body = program.bodies[frameMethod[frames - 1]];
            switch (body.kind[at]) {
                case KIND_NUMBER: finish(body.value[at]); break;
                case KIND_VAR: finish(read(body, at)); break;
                case KIND_THIS: finish(frameObject[frames - 1]); break;
                case KIND_MAKE: finish(create(body.value[at])); break;
                case KIND_LET:
                case KIND_SEQ:
                case KIND_TEST:
                case KIND_GUARD: choose(body, at, done); break;
                default:
                    if (done < body.parts[at]) start(body.part(at, done));
                    else apply(body, at, done);
            }
        }

        private int read(Body body, int at) {
            if (body.isLocal(at)) return local[slot(body.bound[at])];
            return heapField[frameObject[frames - 1] * MOST_NAMES + body.value[at]];
        }

        private void write(Body body, int at, int value) {
            if (body.isLocal(at)) local[slot(body.bound[at])] = value;
            else heapField[frameObject[frames - 1] * MOST_NAMES + body.value[at]] = value;
        }

        private int slot(int bound) {
            return (frames - 1) * LOCALS + bound + 2;
        }

        /** Goes on with a node that does not find all of its parts, or ends as the last of them. */
        private void choose(Body body, int at, int done) {
            if (done == 0) {
                start(body.part(at, 0));
                return;
            }
            int last = operand[operands - 1];
            int kind = body.kind[at];
            if (done > 1 || kind == KIND_GUARD) {
                finish(last);
                return;
            }
            if (kind == KIND_LET) local[slot(at)] = last;
            boolean isThird = kind == KIND_TEST && last == 0;
            start(body.part(at, isThird ? 2 : 1));
        }

        private void apply(Body body, int at, int done) {
            int bottom = height[open - 1];
            int first = operand[bottom];
            int second = body.parts[at] > 1 ? operand[bottom + 1] : 0;
            switch (body.kind[at]) {
                case KIND_FIELD:
                    if (first == NO_OBJECT) raiseUp(LOST, 0);
                    else finish(heapField[first * MOST_NAMES + body.value[at]]);
                    break;
                case KIND_PUT:
                    if (first == NO_OBJECT) {
                        raiseUp(LOST, 0);
                    } else {
                        heapField[first * MOST_NAMES + body.value[at]] = second;
                        finish(second);
                    }
                    break;
                case KIND_SET:
                    write(body, at, first);
                    finish(first);
                    break;
                case KIND_TWO: finish(combine(body.value[at], first, second)); break;
                case KIND_CALL:
                    if (done > body.parts[at]) finish(operand[operands - 1]);
                    else if (first == NO_OBJECT) raiseUp(LOST, 0);
                    else dispatch(body, at, bottom);
                    break;
                default: raiseUp(RAISED, first);
            }
        }

        private static int combine(int sign, int first, int second) {
            switch (sign) {
                case 0: return first + second;
                case 1: return first - second;
                case 2: return first * second;
                default: return first < second ? 1 : 0;
            }
        }

        private void dispatch(Body body, int at, int bottom) {
            int arity = body.parts[at] - 1;
            int object = operand[bottom];
            int callee = program.methodFor(heapClass[object], body.value[at], arity);
            enter(callee, object, arity > 0 ? operand[bottom + 1] : 0, arity > 1 ? operand[bottom + 2] : 0);
        }

        /** Ends all that has begun, up to a GUARD that is in its first part; how it ends without one. */
        private void raiseUp(int without, int number) {
            for (; open > 0; open--) {
                int top = open - 1;
                Body body = program.bodies[frameMethod[frame[top] - 1]];
                if (body.kind[place[top]] == KIND_GUARD && stage[top] == 1) {
                    frames = frame[top];
                    operands = height[top];
                    stage[top] = 2;
                    start(body.part(place[top], 1));
                    return;
                }
            }
            how = without;
            answer = number;
        }
    }

    /** Changes names. */
    private static final class Renamer {
        final Body sheet = new Body(MOST_ON_SHEET);

        int nameMethod(Program from, Program to, int method, int name) {
            int family = from.family(method);
            if (!from.isFree(family, name, from.arity[method])) return CLASH;
            int count = 0;
            for (int m = 0; m < from.methods; m++) {
                if (!from.isThere(m)) continue;
                if ((family >>> m & 1) == 1) to.name[m] = name;
                Body body = from.bodies[m];
                for (int i = 0; i < body.size; i++) {
                    if (!body.isCallOf(i, family)) continue;
                    to.bodies[m].value[i] = name;
                    count++;
                }
            }
            return count;
        }

        int nameField(Program from, Program to, int of, int field, int name) {
            if (from.hasAkinField(of, name)) return CLASH;
            to.moveField(of, field, name);
            int count = 0;
            boolean isTooMuch = false;
            for (int m = 0; m < from.methods; m++) {
                if (!from.isThere(m)) continue;
                Body body = from.bodies[m];
                sheet.clear();
                for (int i = 0; i < body.size; i++) {
                    if (!body.isBoundToField(i, of, field)) {
                        sheet.addCopy(body, i);
                        continue;
                    }
                    count++;
                    if (body.isVariable(i) && from.hasLocal(m, i, name)) sheet.addPlain(body, i, name);
                    else sheet.addNamed(body, i, name);
                }
                if (!to.bodies[m].take(sheet)) isTooMuch = true;
            }
            return isTooMuch ? TOO_MANY : count;
        }

        int nameLocal(Program from, Program to, int method, int local, int name) {
            Body body = from.bodies[method];
            if (local >= 0 && body.kind[local] != KIND_LET) return NOT_THAT;
            if (local < 0 && from.parameterCalled(method, name) != NONE) return CLASH;
            int start = local < 0 ? 0 : body.part(local, 1);
            int stop = local < 0 ? body.size : body.end[local];
            int count = 0;
            sheet.clear();
            for (int i = 0; i < body.size; i++) {
                boolean isWithin = i >= start && i < stop;
                if (isWithin && isCaptured(body, i, local, name)) return CAPTURE;
                boolean isBound = body.isBoundToLocal(i, local);
                if (isBound) count++;
                if (i == local || isBound) sheet.addNamed(body, i, name);
                else if (isWithin && body.isOfField(i) && body.value[i] == name) sheet.addPlain(body, i, name);
                else sheet.addCopy(body, i);
            }
            if (local < 0) to.paramName[method * 2 - 1 - local] = name;
            return to.bodies[method].take(sheet) ? count : TOO_MANY;
        }

        /** Whether a node in the b of a local would be bound to another one, if that had the new name. */
        private static boolean isCaptured(Body body, int place, int local, int name) {
            if (body.isBoundToLocal(place, local)) {
                int let = body.letAround(place, name);
                return let != NONE && let > local;
            }
            return local >= 0 && body.isOuter(place, local) && body.value[place] == name;
        }
    }

    /** Puts the bodies of methods in place of CALLs. */
    private static final class Inliner {
        final Body sheet = new Body(MOST_ON_SHEET);
        final Checker checker;

        Inliner(Checker checker) {
            this.checker = checker;
        }

        int replaceCall(Program from, Program to, int method, int place) {
            Body body = from.bodies[method];
            if (body.kind[place] != KIND_CALL || !body.isOfThis(place)) return NOT_THAT;
            int arity = body.parts[place] - 1;
            if (from.hasMethodBelow(from.owner[method], body.value[place], arity)) return OVERRIDDEN;
            int callee = body.bound[place] - METHOD_BASE;
            if ((from.reach(callee) >>> callee & 1) == 1) return RECURSIVE;
            int names = from.namesIn(method) | from.namesIn(callee);
            int first = arity > 0 ? freshName(names) : NONE;
            int second = arity > 1 ? freshName(names | 1 << Math.max(first, 0)) : NONE;
            if ((arity > 0 && first == NONE) || (arity > 1 && second == NONE)) return TOO_MANY;
            sheet.clear();
            sheet.addRange(body, 0, place);
            if (arity > 0) addLet(body, body.part(place, 1), first);
            if (arity > 1) addLet(body, body.part(place, 2), second);
            addBody(from, method, place, first, second);
            sheet.addRange(body, body.end[place], body.size);
            if (!checker.isRightBody(to, method, sheet)) return INVISIBLE;
            return to.bodies[method].take(sheet) ? sheet.size : TOO_MANY;
        }

        private void addLet(Body body, int argument, int name) {
            sheet.add(KIND_LET, name, 2);
            sheet.addRange(body, argument, body.end[argument]);
        }

        private void addBody(Program from, int method, int place, int first, int second) {
            Body body = from.bodies[from.bodies[method].bound[place] - METHOD_BASE];
            for (int i = 0; i < body.size; i++) {
                int name = body.value[i];
                if (body.isBoundToLocal(i, -1)) sheet.addNamed(body, i, first);
                else if (body.isBoundToLocal(i, -2)) sheet.addNamed(body, i, second);
                else if (body.isOfField(i) && from.hasLocal(method, place, name)) sheet.addPlain(body, i, name);
                else sheet.addCopy(body, i);
            }
        }
    }

    /** The locals of a node, in the order in which they come first; a third one stands for all others. */
    private static final class Locals {
        final int[] bound = new int[3];
        final int[] name = new int[3];
        final int[] type = new int[3];
        int count;

        int indexOf(int itsBound) {
            for (int i = 0; i < count; i++) {
                if (bound[i] == itsBound) return i;
            }
            return NONE;
        }

        int note(Program program, int method, int place) {
            Body body = program.bodies[method];
            int index = indexOf(body.bound[place]);
            if (index != NONE || count >= 3) return index;
            bound[count] = body.bound[place];
            name[count] = body.value[place];
            type[count] = program.typeOfLocal(method, body.bound[place]);
            count++;
            return count - 1;
        }

        boolean hasTypesOf(Locals other) {
            if (count != other.count) return false;
            for (int i = 0; i < count; i++) {
                if (type[i] != other.type[i]) return false;
            }
            return true;
        }
    }

    /** Takes nodes out as methods. */
    private static final class Extractor {
        final Body sheet = new Body(MOST_ON_SHEET);
        final Locals ours = new Locals();
        final Locals theirs = new Locals();

        int takeOut(Program from, Program to, int method, int place, int name) {
            Body body = from.bodies[method];
            if (body.type[place] == NEVER) return NOT_THAT;
            if (!noteLocals(from, method, place)) return OUTPUT;
            if (ours.count > 2) return TOO_MANY;
            int of = from.owner[method];
            if (from.hasAkinMethod(of, name, ours.count)) return CLASH;
            if (from.methods >= MOST_METHODS) return TOO_MANY;
            int added = to.addMethod(of, name, body.type[place]);
            for (int i = 0; i < ours.count; i++) to.addParameterTo(added, ours.name[i], ours.type[i]);
            to.bodies[added].addRange(body, place, body.end[place]);
            int count = 0;
            boolean isTooMuch = false;
            for (int m = 0; m < from.methods; m++) {
                if (!from.isThere(m) || from.owner[m] != of) continue;
                count += replaceLikes(from, method, place, m, name);
                if (!to.bodies[m].take(sheet)) isTooMuch = true;
            }
            return isTooMuch ? TOO_MANY : 100 * added + count;
        }

        /** Says whether none of the locals is SET in the node. */
        private boolean noteLocals(Program from, int method, int place) {
            Body body = from.bodies[method];
            ours.count = 0;
            for (int i = place; i < body.end[place]; i++) {
                if (!body.isOuter(i, place)) continue;
                if (body.kind[i] == KIND_SET) return false;
                ours.note(from, method, i);
            }
            return true;
        }

        private int replaceLikes(Program from, int method, int place, int other, int name) {
            Body body = from.bodies[other];
            int count = 0;
            int behind = 0;
            sheet.clear();
            for (int i = 0; i < body.size; i++) {
                if (i < behind) continue;
                if (!isLike(from, method, place, other, i)) {
                    sheet.addCopy(body, i);
                    continue;
                }
                sheet.add(KIND_CALL, name, 1 + theirs.count);
                sheet.add(KIND_THIS, 0, 0);
                for (int k = 0; k < theirs.count; k++) sheet.add(KIND_VAR, theirs.name[k], 0);
                behind = body.end[i];
                count++;
            }
            return count;
        }

        private boolean isLike(Program from, int method, int place, int other, int root) {
            Body mine = from.bodies[method];
            Body body = from.bodies[other];
            int size = mine.end[place] - place;
            theirs.count = 0;
            if (body.end[root] - root != size) return false;
            for (int i = 0; i < size; i++) {
                int one = place + i;
                int two = root + i;
                if (mine.kind[one] != body.kind[two] || mine.parts[one] != body.parts[two]) return false;
                boolean isOuter = mine.isOuter(one, place);
                if (isOuter != body.isOuter(two, root)) return false;
                boolean isSame = isOuter
                    ? ours.indexOf(mine.bound[one]) == theirs.note(from, other, two)
                    : mine.value[one] == body.value[two];
                if (!isSame) return false;
            }
            return theirs.hasTypesOf(ours);
        }
    }

    /** Adds parameters and drops them. */
    private static final class Signatures {
        final Body sheet = new Body(MOST_ON_SHEET);

        int widen(Program from, Program to, int method, int number) {
            int arity = from.arity[method];
            if (arity >= 2) return TOO_MANY;
            int family = from.family(method);
            if (!from.isFree(family, from.name[method], arity + 1)) return CLASH;
            int count = 0;
            boolean isTooMuch = false;
            for (int m = 0; m < from.methods; m++) {
                if (!from.isThere(m)) continue;
                if ((family >>> m & 1) == 1) {
                    int fresh = freshName(from.namesIn(m));
                    if (fresh == NONE) isTooMuch = true;
                    to.addParameterTo(m, fresh, INT);
                }
                count += lengthen(from.bodies[m], family, number);
                if (!to.bodies[m].take(sheet)) isTooMuch = true;
            }
            return isTooMuch ? TOO_MANY : count;
        }

        private int lengthen(Body body, int family, int number) {
            int count = 0;
            sheet.clear();
            for (int i = 0; i < body.size; i++) {
                boolean isChanged = body.isCallOf(i, family);
                if (isChanged) count++;
                sheet.add(body.kind[i], body.value[i], body.parts[i] + (isChanged ? 1 : 0));
                // A new argument stands where its CALL ends, and several CALLs may end at one place.
                for (int k = i; k >= 0; k--) {
                    if (body.end[k] == i + 1 && body.isCallOf(k, family)) sheet.add(KIND_NUMBER, number, 0);
                }
            }
            return count;
        }

        int narrow(Program from, Program to, int method, int parameter) {
            int family = from.family(method);
            if (isUsed(from, family, parameter)) return USED;
            if (!from.isFree(family, from.name[method], from.arity[method] - 1)) return CLASH;
            if (hasEffect(from, family, parameter)) return EFFECT;
            int count = 0;
            for (int m = 0; m < from.methods; m++) {
                if (!from.isThere(m)) continue;
                if ((family >>> m & 1) == 1) to.dropParameterOf(m, parameter);
                count += shorten(from.bodies[m], family, parameter);
                to.bodies[m].take(sheet);
            }
            return count;
        }

        private static boolean isUsed(Program from, int family, int parameter) {
            for (int m = 0; m < from.methods; m++) {
                if ((family >>> m & 1) == 0) continue;
                Body body = from.bodies[m];
                for (int i = 0; i < body.size; i++) {
                    if (body.isBoundToLocal(i, -1 - parameter)) return true;
                }
            }
            return false;
        }

        private static boolean hasEffect(Program from, int family, int parameter) {
            for (int m = 0; m < from.methods; m++) {
                if (!from.isThere(m)) continue;
                Body body = from.bodies[m];
                for (int i = 0; i < body.size; i++) {
                    if (body.isCallOf(i, family) && !isPlain(body, body.part(i, 1 + parameter))) return true;
                }
            }
            return false;
        }

        private static boolean isPlain(Body body, int place) {
            for (int i = place; i < body.end[place]; i++) {
                int kind = body.kind[i];
                boolean isLeaf = kind == KIND_NUMBER || kind == KIND_VAR || kind == KIND_THIS;
                boolean isField = kind == KIND_FIELD && body.isOfThis(i);
                if (!isLeaf && !isField && kind != KIND_TWO) return false;
            }
            return true;
        }

        private int shorten(Body body, int family, int parameter) {
            int count = 0;
            int behind = 0;
            sheet.clear();
            for (int i = 0; i < body.size; i++) {
                if (i < behind) continue;
                if (isDropped(body, i, family, parameter)) {
                    behind = body.end[i];
                    continue;
                }
                boolean isChanged = body.isCallOf(i, family);
                if (isChanged) count++;
                sheet.add(body.kind[i], body.value[i], body.parts[i] - (isChanged ? 1 : 0));
            }
            return count;
        }

        private static boolean isDropped(Body body, int place, int family, int parameter) {
            for (int i = 0; i < place; i++) {
                if (body.isCallOf(i, family) && body.part(i, 1 + parameter) == place) return true;
            }
            return false;
        }
    }

    /** Moves methods between classes, puts them before fields, and sweeps out what is dead. */
    private static final class Mover {
        final Checker checker;

        Mover(Checker checker) {
            this.checker = checker;
        }

        int moveUp(Program from, Program to, int method) {
            int parent = from.parent[from.owner[method]];
            if (parent == NONE) return NOT_THAT;
            int above = from.methodFor(parent, from.name[method], from.arity[method]);
            if (above != NONE) return from.owner[above] == parent ? CLASH : CHANGES;
            to.owner[method] = parent;
            return checker.isRight(to) ? parent : INVISIBLE;
        }

        int moveDown(Program from, Program to, int method) {
            int of = from.owner[method];
            if (!hasChild(from, of)) return NOT_THAT;
            if (isMade(from, of) || isCalledInClass(from, method)) return USED;
            int parent = from.parent[of];
            if (parent != NONE && from.methodFor(parent, from.name[method], from.arity[method]) != NONE) return CHANGES;
            int getting = 0;
            for (int c = 0; c < from.classes; c++) {
                if (isGetting(from, method, c)) getting++;
            }
            if (from.methods + getting - 1 > MOST_METHODS) return TOO_MANY;
            spread(from, to, method);
            return checker.isRight(to) ? getting : INVISIBLE;
        }

        private static boolean hasChild(Program from, int of) {
            for (int c = 0; c < from.classes; c++) {
                if (from.parent[c] == of) return true;
            }
            return false;
        }

        private static boolean isMade(Program from, int of) {
            for (int m = 0; m < from.methods; m++) {
                if (!from.isThere(m)) continue;
                Body body = from.bodies[m];
                for (int i = 0; i < body.size; i++) {
                    if (body.kind[i] == KIND_MAKE && body.value[i] == of) return true;
                }
            }
            return false;
        }

        private static boolean isCalledInClass(Program from, int method) {
            for (int m = 0; m < from.methods; m++) {
                if (!from.isThere(m)) continue;
                Body body = from.bodies[m];
                for (int i = 0; i < body.size; i++) {
                    if (body.isCallOf(i, 1 << method) && body.type[i + 1] == from.owner[method]) return true;
                }
            }
            return false;
        }

        private static boolean isGetting(Program from, int method, int of) {
            boolean isChild = from.parent[of] == from.owner[method];
            return isChild && from.methodIn(of, from.name[method], from.arity[method]) == NONE;
        }

        private static void spread(Program from, Program to, int method) {
            boolean isPlaced = false;
            for (int c = 0; c < from.classes; c++) {
                if (!isGetting(from, method, c)) continue;
                if (isPlaced) to.addMethodLike(method, c);
                else to.owner[method] = c;
                isPlaced = true;
            }
            if (!isPlaced) to.there &= ~(1 << method);
        }

        int hide(Program from, Program to, int of, int field, int getter, int setter) {
            if (from.hasAkinMethod(of, getter, 0) || from.hasAkinMethod(of, setter, 1)) return CLASH;
            if (from.methods + 2 > MOST_METHODS) return TOO_MANY;
            int type = from.typeOfField(of, field);
            int reader = to.addMethod(of, getter, type);
            to.bodies[reader].add(KIND_VAR, field, 0);
            int writer = to.addMethod(of, setter, type);
            int parameter = field == 0 ? 1 : 0;
            to.addParameterTo(writer, parameter, type);
            to.bodies[writer].add(KIND_SET, field, 1);
            to.bodies[writer].add(KIND_VAR, parameter, 0);
            int count = 0;
            for (int m = 0; m < from.methods; m++) {
                if (!from.isThere(m)) continue;
                Body body = from.bodies[m];
                for (int i = 0; i < body.size; i++) {
                    if (body.isVariable(i) || !body.isBoundToField(i, of, field) || body.isOfThis(i)) continue;
                    to.bodies[m].kind[i] = KIND_CALL;
                    to.bodies[m].value[i] = body.kind[i] == KIND_FIELD ? getter : setter;
                    count++;
                }
            }
            return count;
        }

        int sweep(Program from, Program to, int method) {
            int kept = from.reach(method) | 1 << method;
            int count = 0;
            for (int m = 0; m < from.methods; m++) {
                if (!from.isThere(m) || (kept >>> m & 1) == 1) continue;
                to.there &= ~(1 << m);
                count++;
            }
            return count;
        }
    }

    /** The lowest name that is not in a set of names. */
    private static int freshName(int names) {
        for (int name = 0; name < MOST_NAMES; name++) {
            if ((names >>> name & 1) == 0) return name;
        }
        return NONE;
    }
}
