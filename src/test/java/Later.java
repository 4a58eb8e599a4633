/** What an object answers later on, as text, so that two objects can be held side by side. */
final class Later {
    interface Call { int go(SmithyBench x); }
    interface Maker { SmithyBench make(); }

    /** With what is told first, it stays below the 512 calls for which an object is promised. */
    private static final int MOST_ASKED = 240;

    private final Maker maker;
    private final StringBuilder text = new StringBuilder();
    private SmithyBench x;
    private int asked;
    private int undone;

    private Later(Maker maker) {
        this.maker = maker;
        renew();
    }

    static String answer(SmithyBench x, Call call) {
        try {
            return String.valueOf(call.go(x));
        } catch (RuntimeException e) {
            return e.getClass().getSimpleName();
        }
    }

    /** The last run, all methods, and the same behind each undoing that is possible. */
    static String byUndoing(Maker maker) {
        Later later = new Later(maker);
        later.tell("last", SmithyBench::value);
        later.tell("in steps", SmithyBench::steps);
        for (int i = 0; i < 12; i++) {
            later.all();
            String left = later.tell("undo", SmithyBench::undo);
            if (left.endsWith("Exception")) break;
            later.undone++;
            later.renew();
        }
        return later.text.toString();
    }

    /** All methods alone. */
    static String now(Maker maker) {
        Later later = new Later(maker);
        later.all();
        return later.text.toString();
    }

    /** Runs of both programs, and which numbers nodes, methods, classes and fields get that are told next. */
    static String byTelling(Maker maker) {
        Later later = new Later(maker);
        later.runs();
        later.renew();
        later.tell("node", y -> y.number(5));
        for (int name = 0; name < 16; name++) {
            int n = name;
            later.tell("method", y -> y.method(0, n, -1, -1, -1, 0));
            later.tell("field", y -> y.fieldOf(n % 6, n, -1));
        }
        later.tell("class", y -> y.classOf(-1));
        later.tell("begin", SmithyBench::begin);
        return later.text.toString();
    }

    private void renew() {
        x = maker.make();
        for (int i = 0; i < undone; i++) x.undo();
        asked = undone;
    }

    private void reserve(int calls) { if (asked + calls > MOST_ASKED) renew(); }

    private String ask(Call call) {
        reserve(1);
        asked++;
        return answer(x, call);
    }

    private String tell(String what, Call call) {
        String answer = ask(call);
        text.append(what).append(' ').append(answer).append('\n');
        return answer;
    }

    private void all() {
        tell("wrong", SmithyBench::wrong);
        for (int m = 0; m < 24; m++) {
            int method = m;
            String of = ask(y -> y.tell(method, 0));
            text.append("method ").append(m).append(": ").append(of);
            if (!of.endsWith("Exception")) body(method);
            text.append('\n');
        }
    }

    private void body(int method) {
        for (int i = 1; i < 8; i++) {
            int what = i;
            text.append(' ').append(ask(y -> y.tell(method, what)));
        }
        int places = Integer.parseInt(ask(y -> y.tell(method, 6)));
        for (int i = 0; i < places * 4; i++) {
            int place = i / 4, what = i % 4;
            text.append(what == 0 ? ' ' : '/').append(ask(y -> y.node(method, place, what)));
        }
    }

    private void runs() {
        for (int i = 0; i < 24 * 2; i++) {
            int m = i / 2;
            boolean isBegun = i % 2 == 1;
            // Where there is no such method, one class tells as much as six.
            int classes = ask(y -> y.tell(m, 0)).endsWith("Exception") ? 1 : 6;
            for (int c = 0; c < classes; c++) {
                int of = c;
                reserve(3);
                tell("run", y -> y.run(m, of, 3, 4, isBegun));
                tell("value", SmithyBench::value);
                tell("steps", SmithyBench::steps);
            }
        }
    }
}
