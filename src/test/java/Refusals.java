/** Holds calls that are refused, or throw, to their answer, and to changing nothing. */
final class Refusals {
    interface Maker { Bench make(); }

    private final Due due;

    Refusals(Due due) { this.due = due; }

    void refused(String what, Maker maker, Later.Call call, int reason) { answers(what, maker, call, String.valueOf(reason)); }
    void outOfBounds(String what, Maker maker, Later.Call call) { answers(what, maker, call, "IndexOutOfBoundsException"); }
    void badArgument(String what, Maker maker, Later.Call call) { answers(what, maker, call, "IllegalArgumentException"); }
    void badState(String what, Maker maker, Later.Call call) { answers(what, maker, call, "IllegalStateException"); }

    private void answers(String what, Maker maker, Later.Call call, String want) {
        due.same(what, Later.answer(maker.make().x, call), want);
        due.same(what + ", when there is something to undo", Later.answer(ready(maker), call), want);
        due.same(what + ", and what is undone later", Later.byUndoing(() -> behind(maker, call)), Later.byUndoing(() -> ready(maker)));
        due.same(what + ", and what is told later", Later.byTelling(() -> behind(maker, call)), Later.byTelling(() -> ready(maker)));
    }

    private static SmithyBench behind(Maker maker, Later.Call call) {
        SmithyBench x = ready(maker);
        Later.answer(x, call);
        return x;
    }

    /** What a maker makes, behind a run and two changes that together change nothing, where these can be done. */
    private static SmithyBench ready(Maker maker) {
        SmithyBench x = maker.make().x;
        for (int m = 0; m < 4; m++) if (hasRun(x, m)) break;
        for (int m = 0; m < 4; m++) if (hasChanged(x, m)) break;
        return x;
    }

    private static boolean isDone(String answer) { return !answer.endsWith("Exception") && !answer.startsWith("-"); }

    private static boolean hasRun(SmithyBench x, int m) {
        String of = Later.answer(x, y -> y.tell(m, 0));
        return isDone(of) && isDone(Later.answer(x, y -> y.run(m, Integer.parseInt(of), 6, 7, false)));
    }

    private static boolean hasChanged(SmithyBench x, int m) {
        String own = Later.answer(x, y -> y.tell(m, 1));
        if (!isDone(own)) return false;
        for (int i = 15; i > 11; i--) {
            int other = i;
            if (isDone(Later.answer(x, y -> y.renameMethod(m, other)))) return isDone(Later.answer(x, y -> y.renameMethod(m, Integer.parseInt(own))));
        }
        int last = x.tell(m, 2);
        return isDone(Later.answer(x, y -> y.addParameter(m, 5))) && isDone(Later.answer(x, y -> y.dropParameter(m, last)));
    }
}
