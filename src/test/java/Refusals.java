/** Holds calls that are refused, or throw, to their answer, and to changing nothing. */
final class Refusals {
    interface Maker { Bench make(); }

    private final Due due;

    Refusals(Due due) { this.due = due; }

    void refused(String what, Maker maker, Later.Call call, int reason) { answers(what, maker, call, String.valueOf(reason)); }
    void outOfBounds(String what, Maker maker, Later.Call call) { answers(what, maker, call, "IndexOutOfBoundsException"); }
    void badArgument(String what, Maker maker, Later.Call call) { answers(what, maker, call, "IllegalArgumentException"); }
    void badState(String what, Maker maker, Later.Call call) { answers(what, maker, call, "IllegalStateException"); }

    private void answers(String what, Maker maker, Later.Call call, String want) {
        due.same(what, Later.answer(maker.make().x, call), want);
        SmithyBench with = ready(maker), without = ready(maker);
        due.same(what + ", when there is something to undo", Later.answer(with, call), want);
        due.same(what + ", and what is undone later", Later.byUndoing(with), Later.byUndoing(without));
        with = ready(maker);
        without = ready(maker);
        Later.answer(with, call);
        due.same(what + ", and what is told later", Later.byTelling(with), Later.byTelling(without));
    }

    /** What a maker makes, behind a run and two changes that together change nothing, if it is right. */
    private static SmithyBench ready(Maker maker) {
        SmithyBench x = maker.make().x;
        for (int i = 0; i < 24 * 6; i++) {
            int m = i / 6, of = i % 6;
            if (!Later.answer(x, y -> y.run(m, of, 6, 7, false)).endsWith("Exception")) break;
        }
        for (int i = 0; i < 24 * 16; i++) {
            int m = i / 16, other = 15 - i % 16;
            String own = Later.answer(x, y -> y.tell(m, 1));
            if (own.endsWith("Exception")) continue;
            String renamed = Later.answer(x, y -> y.renameMethod(m, other));
            if (renamed.endsWith("Exception") || renamed.startsWith("-")) continue;
            x.renameMethod(m, Integer.parseInt(own));
            return x;
        }
        return x;
    }
}
