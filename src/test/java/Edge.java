import java.util.List;
import java.util.function.Supplier;
import java.util.function.ToIntFunction;

/** Calls at the last number within a bound and the first beyond it; what is refused is looked at for what it changed. */
final class Edge {
    interface Call {
        int on(LeftQuills x, int v);
    }

    static final int NONE = LeftQuills.NONE, UNKNOWN = LeftQuills.UNKNOWN, OUTSIDE = LeftQuills.OUTSIDE, NOT = LeftQuills.NOT, FULL = LeftQuills.FULL;
    static final int LOWEST = Integer.MIN_VALUE, HIGHEST = Integer.MAX_VALUE;
    /** Wear of a page: hand 0 by quill 6, 8; hand 1: 13, 7. */
    static final String TEXT = "o2 3;q0 2 3 20 4;q1 3 5 12 5;h0 4 4;h1 6 6;";

    private final Due due;

    Edge(Due due) {
        this.due = due;
    }

    /** Something of all there is, but for the text: two things can be undone, image 0 is kept, worn and the book have something. */
    static LeftQuills inUse() {
        LeftQuills x = Due.with(TEXT);
        x.seed(5);
        x.write(0, 0, 3);
        x.mend(1);
        x.keep(0);
        x.seed(6);
        x.write(0, 1, 2);
        x.broaden(0);
        x.worn(1, 1, 7);
        x.worn(1, 2, 14);
        x.note(1, 0);
        x.note(0, 99);
        return x;
    }

    /** As in use, and the text has letters. */
    static LeftQuills busy() {
        LeftQuills x = inUse();
        Due.feed(x, "o9 9;q");
        return x;
    }

    /** Above 90000 minutes, by more than the 512 calls that are promised: fewer cannot reach it. */
    static LeftQuills overTime(String text) {
        LeftQuills x = atTime(text);
        x.write(0, 0, 1);
        return x;
    }

    /** At 90000 minutes, which are not above them. */
    static LeftQuills atTime(String text) {
        LeftQuills x = Due.with(text);
        for (int i = 0; i < 1125; i++) {
            x.write(0, 0, 40);
        }
        return x;
    }

    static boolean isRefusal(int answer) {
        return answer <= UNKNOWN;
    }

    /** The call is refused so, and nothing is otherwise behind it. */
    void refused(String what, Supplier<LeftQuills> made, ToIntFunction<LeftQuills> call, int refusal) {
        LeftQuills x = made.get();
        due.is(what, call.applyAsInt(x), refusal);
        due.same(what + " changed what is not its own", Shown.of(x), Shown.of(made.get()));
    }

    /** The call answers so, and nothing is otherwise behind it. */
    void onlyAnswers(String what, Supplier<LeftQuills> made, ToIntFunction<LeftQuills> call, int answer) {
        refused(what, made, call, answer);
    }

    /** From least to most a number is taken; all else is refused so, and nothing is otherwise behind that. */
    void taken(String what, Supplier<LeftQuills> made, Call call, int least, int most, int refusal) {
        for (int v : new int[] {least, least + (most - least) / 2, most}) {
            due.is(what + " " + v + " is refused", isRefusal(call.on(made.get(), v)) ? 1 : 0, 0);
        }
        for (long v : List.of((long) LOWEST, LOWEST + 1L, least - 2L, least - 1L, most + 1L, most + 2L, HIGHEST - 1L, (long) HIGHEST)) {
            boolean isBeyond = v < least || v > most;
            if (isBeyond && v >= LOWEST && v <= HIGHEST) {
                refused(what + " " + v, made, x -> call.on(x, (int) v), refusal);
            }
        }
    }

    void bounds(String what, Supplier<LeftQuills> made, Call call, int least, int most) {
        taken(what, made, call, least, most, OUTSIDE);
    }

    /** Quills, hands, images: from 0 on, so many. */
    void known(String what, Supplier<LeftQuills> made, Call call, int count) {
        taken(what, made, call, 0, count - 1, UNKNOWN);
    }
}
