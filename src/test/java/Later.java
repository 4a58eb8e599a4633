/** What an object answers later on, as text, so that two objects can be held side by side. */
final class Later {
    interface Call { int go(SmithyBench x); }

    private Later() { }

    static String answer(SmithyBench x, Call call) {
        try {
            return String.valueOf(call.go(x));
        } catch (RuntimeException e) {
            return e.getClass().getSimpleName();
        }
    }

    /** The last run, all methods, and the same behind each undoing that is possible. */
    static String byUndoing(SmithyBench x) {
        StringBuilder text = new StringBuilder();
        text.append("last ").append(x.value()).append(' ').append(x.steps()).append('\n');
        for (int i = 0; i < 12; i++) {
            all(x, text);
            String undone = answer(x, SmithyBench::undo);
            text.append("undo ").append(undone).append('\n');
            if (undone.endsWith("Exception")) break;
        }
        return text.toString();
    }

    /** Runs of both programs, and which numbers nodes, methods, classes and fields get that are told next. */
    static String byTelling(SmithyBench x) {
        StringBuilder text = new StringBuilder();
        runs(x, text);
        text.append("node ").append(answer(x, y -> y.number(5))).append('\n');
        for (int name = 0; name < 16; name++) {
            int n = name;
            text.append("method ").append(answer(x, y -> y.method(0, n, -1, -1, -1, 0))).append('\n');
            text.append("field ").append(answer(x, y -> y.fieldOf(n % 6, n, -1))).append('\n');
        }
        text.append("class ").append(answer(x, y -> y.classOf(-1))).append('\n');
        text.append("begin ").append(answer(x, SmithyBench::begin)).append('\n');
        return text.toString();
    }

    private static void all(SmithyBench x, StringBuilder text) {
        text.append("wrong ").append(x.wrong()).append('\n');
        for (int m = 0; m < 24; m++) {
            text.append("method ").append(m).append(':');
            for (int what = 0; what < 8; what++) text.append(' ').append(told(x, m, what));
            String size = told(x, m, 6);
            int places = size.endsWith("Exception") ? 0 : Integer.parseInt(size);
            for (int place = 0; place < places; place++) {
                text.append(' ');
                for (int what = 0; what < 4; what++) text.append('/').append(x.node(m, place, what));
            }
            text.append('\n');
        }
    }

    private static String told(SmithyBench x, int m, int what) { return answer(x, y -> y.tell(m, what)); }

    private static void runs(SmithyBench x, StringBuilder text) {
        for (int i = 0; i < 24 * 2; i++) {
            int m = i / 2;
            boolean isBegun = i % 2 == 1;
            // Where there is no such method, one class tells as much as six.
            int classes = told(x, m, 0).endsWith("Exception") ? 1 : 6;
            for (int c = 0; c < classes; c++) {
                int of = c;
                text.append("run ").append(answer(x, y -> y.run(m, of, 3, 4, isBegun))).append(' ').append(x.value()).append(' ').append(x.steps()).append('\n');
            }
        }
    }
}
