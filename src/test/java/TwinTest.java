import java.lang.reflect.InvocationTargetException;
import java.lang.reflect.Method;
import java.util.ArrayList;
import java.util.HashMap;
import java.util.List;
import java.util.Map;
import java.util.Random;
import java.util.TreeMap;

/** Runs the same calls, out of seeds, on the class and on the plain one, and holds all answers side by side. */
public final class TwinTest {
    static final Map<String, Method> OURS = faces(SmithyBench.class), PLAIN = faces(PlainBench.class);
    static final TreeMap<String, Integer> seen = new TreeMap<>();
    static final TreeMap<String, Integer> oddities = new TreeMap<>();

    private final Replayed ours = new Replayed();
    private final PlainBench plain = new PlainBench();
    private final long seed;
    private final Random random;
    private final List<String> log = new ArrayList<>();
    private final boolean isLogged;
    private Programs programs;
    private boolean hasDropped;

    /** An object that is made anew, and told all that was done, before more calls are made than it is promised for. */
    static final class Replayed {
        private static final int MOST_CALLS = 512;
        private final List<Object[]> done = new ArrayList<>();
        private SmithyBench bench = new SmithyBench();
        private Object[] lastRun;
        private int calls;

        String ask(String call, Object... arguments) {
            if (calls == MOST_CALLS) renew();
            String answer = once(call, arguments);
            boolean isDone = !answer.endsWith("Exception") && !answer.startsWith("-");
            if (!isDone || List.of("tell", "node", "wrong", "value", "steps").contains(call)) return answer;
            Object[] step = {call, arguments};
            done.add(step);
            if (call.equals("run")) {
                done.remove(lastRun);
                lastRun = step;
            }
            return answer;
        }

        private String once(String call, Object[] arguments) {
            calls++;
            return answer(bench, OURS.get(call), arguments);
        }

        private void renew() {
            bench = new SmithyBench();
            calls = 0;
            for (Object[] step : done) once((String) step[0], (Object[]) step[1]);
        }

        boolean isWornOut() { return done.size() > MOST_CALLS - 40; }
    }

    TwinTest(long seed, boolean isLogged) {
        this.seed = seed;
        this.isLogged = isLogged;
        random = new Random(seed);
    }

    static Map<String, Method> faces(Class<?> of) {
        Map<String, Method> out = new HashMap<>();
        for (Method m : of.getDeclaredMethods()) if (java.lang.reflect.Modifier.isPublic(m.getModifiers())) out.put(m.getName(), m);
        return out;
    }

    static String answer(Object on, Method m, Object[] arguments) {
        try {
            return String.valueOf(m.invoke(on, arguments));
        } catch (InvocationTargetException e) {
            if (e.getCause() instanceof AssertionError || e.getCause() instanceof StackOverflowError) throw new IllegalStateException(e.getCause());
            return e.getCause().getClass().getSimpleName();
        } catch (IllegalAccessException e) {
            throw new IllegalStateException(e);
        }
    }

    /** Whether the document leaves the answer open: what is no LET may have a name of its own, or none. */
    private boolean isOpen(String call, Object... arguments) {
        if (!call.equals("renameLocal") || (Integer) arguments[1] < 0) return false;
        String name = ours.ask("node", arguments[0], arguments[1], 1), kind = ours.ask("node", arguments[0], arguments[1], 0);
        return !kind.equals("5") && name.equals(arguments[2].toString());
    }

    String ask(String call, Object... arguments) {
        if (isOpen(call, arguments)) return "-";
        String theirs = answer(plain, PLAIN.get(call), arguments);
        String mine = ours.ask(call, arguments);
        if (isLogged) log.add(call + java.util.Arrays.toString(arguments) + " -> " + theirs);
        if (!mine.equals(theirs)) throw new IllegalStateException("seed " + seed + ": " + call + java.util.Arrays.toString(arguments) + " answered " + mine + ", the plain one " + theirs);
        return mine;
    }

    private int tell(String call, int... arguments) {
        Object[] boxed = new Object[arguments.length];
        for (int i = 0; i < boxed.length; i++) boxed[i] = arguments[i];
        String answer = ask(call, boxed);
        return answer.endsWith("Exception") ? -1 : Integer.parseInt(answer);
    }

    private void compareAll() {
        ask("wrong");
        for (int m = -1; m < 25; m++) {
            String size = ask("tell", m, 6);
            if (size.endsWith("Exception")) continue;
            for (int what = -1; what < 9; what++) ask("tell", m, what);
            for (int place = -1; place <= Integer.parseInt(size); place++) {
                for (int what = 0; what < 4; what++) ask("node", m, place, what);
            }
        }
    }

    private int someMethod() {
        if (random.nextInt(30) == 0) return random.nextInt(27) - 1;
        int m = random.nextInt(24);
        for (int i = 0; i < 24; i++) if (plain.has((m + i) % 24)) return (m + i) % 24;
        return m;
    }

    private int someName() { return random.nextInt(40) == 0 ? random.nextInt(20) - 2 : random.nextInt(Math.min(16, programs.names + 2)); }

    /** A place of one of these kinds, if there is one; otherwise any. */
    private int somePlace(int method, int... kinds) {
        String told = ours.ask("tell", method, 6);
        if (told.endsWith("Exception")) return random.nextInt(3);
        int size = Integer.parseInt(told);
        int from = random.nextInt(size);
        for (int i = 0; i < size && random.nextInt(40) != 0; i++) {
            int kind = Integer.parseInt(ours.ask("node", method, (from + i) % size, 0));
            for (int k : kinds) if (k == kind) return (from + i) % size;
        }
        return random.nextInt(40) == 0 ? random.nextInt(64) - 2 : from;
    }

    private void change() {
        int m = someMethod();
        String call;
        String answer;
        int[] p = programs.parents.stream().mapToInt(i -> i).toArray();
        int c = random.nextInt(30) == 0 ? random.nextInt(8) - 1 : random.nextInt(p.length);
        switch (random.nextInt(14)) {
            case 0: call = "renameMethod"; answer = ask(call, m, someName()); break;
            case 1: call = "renameField"; answer = ask(call, c, someField(c), someName()); break;
            case 2: case 3: call = "renameLocal"; answer = ask(call, m, random.nextInt(3) == 0 ? -1 - random.nextInt(2) : somePlace(m, 5), someName()); break;
            case 4: case 5: call = "inline"; answer = ask(call, m, somePlace(m, 7)); break;
            case 6: case 7: call = "extract"; answer = ask(call, m, somePlace(m, 3 + random.nextInt(9)), random.nextInt(16)); break;
            case 8: call = "addParameter"; answer = ask(call, m, random.nextInt(9) - 4); break;
            case 9: call = "dropParameter"; answer = ask(call, m, random.nextInt(10) == 0 ? random.nextInt(4) - 1 : random.nextInt(2)); hasDropped = true; break;
            case 10: call = "pullUp"; answer = ask(call, m); break;
            case 11: call = "pushDown"; answer = ask(call, m); break;
            case 12: call = "enclose"; answer = ask(call, c, someField(c), random.nextInt(18) - 1, random.nextInt(40) == 0 ? 16 : random.nextInt(16)); break;
            default: call = "removeDead"; answer = random.nextInt(4) == 0 ? ask(call, m) : "none";
        }
        seen.merge(call + " " + (answer.matches("\\d+") ? "done" : answer), 1, Integer::sum);
        if (answer.matches("\\d+")) {
            if (random.nextInt(3) == 0) compareAll();
            compareRuns(call);
        }
    }

    private int someField(int c) {
        if (c >= 0 && c < programs.parents.size() && random.nextInt(8) != 0) {
            for (int i = 0; i < 20; i++) {
                int name = random.nextInt(16);
                if (plain.fieldsOf(c).contains(name)) return name;
            }
        }
        return random.nextInt(18) - 1;
    }

    /** Runs of the beginning and of now: both against the plain one, and one against the other. */
    private void compareRuns(String behind) {
        for (int m = 0; m < 24; m++) {
            int of = random.nextInt(programs.parents.size());
            int a = random.nextInt(7) - 3, b = random.nextInt(7) - 3;
            String was = outcome(m, of, a, b, true);
            String is = outcome(m, of, a, b, false);
            if (hasDropped || was.equals(is) || was.contains("Exception") || is.contains("Exception") || was.startsWith("5") || is.startsWith("5")) continue;
            oddities.merge(behind, 1, Integer::sum);
            if (isLogged) log.add("ODD: method " + m + " of " + of + "(" + a + ", " + b + "): was " + was + " is " + is);
            else throw new IllegalStateException("seed " + seed + ": method " + m + " of " + of + "(" + a + ", " + b + "): was " + was + " is " + is + " behind " + behind);
        }
    }

    private String outcome(int m, int of, int a, int b, boolean isBegun) {
        String how = ask("run", m, of, a, b, isBegun);
        String value = ask("value");
        ask("steps");
        seen.merge("run " + how, 1, Integer::sum);
        return how + " " + value;
    }

    private int anyNumber() {
        switch (random.nextInt(12)) {
            case 0: return random.nextInt();
            case 1: return Integer.MIN_VALUE + random.nextInt(3);
            case 2: return Integer.MAX_VALUE - random.nextInt(3);
            case 3: return random.nextInt(900) - 150;
            case 4: return random.nextInt(30);
            default: return random.nextInt(6) - 2;
        }
    }

    /** Calls with any arguments whatever, in any order; those that tell come more often at first. */
    void goAnyWay() {
        List<String> calls = new ArrayList<>(new java.util.TreeSet<>(OURS.keySet()));
        for (int i = 0; i < 500 && !ours.isWornOut(); i++) {
            String call = calls.get(random.nextInt(calls.size()));
            if (random.nextInt(500) > i) call = List.of("classOf", "number", "var", "self", "let", "two", "call", "field", "fieldOf", "method", "method").get(random.nextInt(11));
            Class<?>[] types = OURS.get(call).getParameterTypes();
            Object[] arguments = new Object[types.length];
            for (int k = 0; k < types.length; k++) arguments[k] = types[k] == boolean.class ? (Object) random.nextBoolean() : (Object) anyNumber();
            String answer = ask(call, arguments);
            seen.merge("any " + call + " " + (answer.matches("\\d+") ? "done" : answer), 1, Integer::sum);
        }
        compareAll();
    }

    void go() {
        if (seed % 4 == 3) {
            goAnyWay();
            return;
        }
        programs = new Programs(random, this::tell);
        boolean isWild = random.nextInt(6) == 0;
        programs.tellAll(isWild);
        seen.merge("wrong " + (ask("wrong").equals("-1") ? "no" : "yes"), 1, Integer::sum);
        compareAll();
        if (ask("begin").endsWith("Exception") && random.nextInt(4) != 0) return;
        compareRuns("begin");
        for (int i = 0; i < 60 && !ours.isWornOut(); i++) {
            change();
            if (random.nextInt(12) == 0) seen.merge("undo " + (ask("undo").endsWith("Exception") ? "none" : "done"), 1, Integer::sum);
            if (random.nextInt(80) == 0) retell();
        }
        compareAll();
        for (int i = 0; i < 12; i++) ask("undo");
        compareAll();
    }

    private void retell() {
        switch (random.nextInt(4)) {
            case 0: ask("classOf", random.nextInt(7) - 1); break;
            case 1: ask("fieldOf", random.nextInt(6), random.nextInt(16), random.nextInt(7) - 1); break;
            case 2: ask("method", random.nextInt(6), random.nextInt(16), random.nextInt(800) - 3, random.nextInt(800) - 3, -1, random.nextInt(150)); break;
            default: ask("begin"); hasDropped = true;
        }
    }

    public static void main(String[] arguments) {
        long from = arguments.length > 0 ? Long.parseLong(arguments[0]) : 0;
        long to = arguments.length > 1 ? Long.parseLong(arguments[1]) : 400;
        boolean isLogged = arguments.length > 2;
        int failed = 0;
        for (long seed = from; seed < to; seed++) {
            TwinTest test = new TwinTest(seed, isLogged);
            try {
                test.go();
            } catch (IllegalStateException e) {
                failed++;
                if (failed < 12) System.out.println(e.getMessage());
                if (failed < 3 && e.getCause() != null) e.printStackTrace(System.out);
            }
            if (isLogged) test.log.forEach(System.out::println);
        }
        if (arguments.length > 0) { System.out.println(seen); System.out.println(oddities); }
        System.out.println(failed == 0 ? "all seeds agree" : failed + " seeds do not agree");
        if (failed != 0) System.exit(1);
    }
}
