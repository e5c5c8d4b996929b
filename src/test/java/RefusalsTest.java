import java.lang.reflect.InvocationTargetException;
import java.lang.reflect.Method;
import java.util.ArrayList;
import java.util.Arrays;
import java.util.List;
import java.util.Set;
import java.util.function.Supplier;

/**
 * Every call by all its arguments at their bounds, in states in which much is refused: it never throws, of several
 * refusals the first in the order of the document is answered, and what is refused or only asked changes nothing.
 */
public final class RefusalsTest {
    private static final int UNKNOWN = Edge.UNKNOWN, OUTSIDE = Edge.OUTSIDE, NOT = Edge.NOT, FULL = Edge.FULL;
    private static final Set<String> TIMED = Set.of("write", "mend", "whet", "drift");
    private static final Set<String> ONLY_ASKS = Set.of("fault", "told", "quill", "hand", "goodPages", "life", "toWhom", "fastest",
        "byTurns", "dearer", "geese", "crooked", "whose", "lookAt", "judge");
    private static final Due DUE = new Due();

    /** What an argument may be: one of so many things that there are, or a number within bounds. */
    private record Argument(char kind, int least, int most) {
        boolean isThing() {
            return kind != 'n';
        }
    }

    private record Call(String name, List<Argument> arguments) {
    }

    /** How an object is made, and what is refused on it beside unknown things and numbers out of bounds. */
    private record State(String name, Supplier<LeftQuills> made, int quills, int hands, Set<String> not, Set<String> full) {
    }

    public static void main(String[] args) {
        List<State> states = states();
        for (Call call : calls()) {
            for (State state : states) {
                every(state, call, new int[call.arguments.size()], 0);
            }
        }
        DUE.end();
    }

    private static Argument number(int least, int most) {
        return new Argument('n', least, most);
    }

    private static Call call(String name, Object... arguments) {
        List<Argument> all = new ArrayList<>();
        for (Object argument : arguments) {
            all.add(argument instanceof Argument told ? told : new Argument((char) argument, 0, 0));
        }
        return new Call(name, all);
    }

    /** The face: q a quill, h a hand, w a hand or NONE, i an image, p the page of fastest(). */
    private static List<Call> calls() {
        return List.of(
            call("feed", number(0, 255)), call("fault"), call("told", number(0, 12)),
            call("quill", 'q', number(0, 6)), call("hand", 'h', number(0, 4)),
            call("write", 'q', 'h', number(1, 40)), call("dry", 'q', number(1, 9)), call("mend", 'q'), call("broaden", 'q'),
            call("whet"), call("drift", number(1, 60)), call("undo"),
            call("goodPages", 'q', 'h'), call("life", 'q', 'h'), call("toWhom", 'w'), call("fastest", 'h', number(1, 4), 'p'),
            call("byTurns", 'q', 'h'), call("dearer"), call("geese", 'q', 'h', number(1, 99999)), call("crooked", number(0, 60), number(0, 100)),
            call("worn", 'q', number(1, 9), number(0, 99)), call("whose"), call("lookAt"), call("note", 'q', number(0, 99)), call("tear"), call("judge"),
            call("seed", number(0, Integer.MAX_VALUE)), call("keep", 'i'), call("goBack", 'i'));
    }

    /** In "not" a name alone is refused always, a name and a number for that argument. */
    private static List<State> states() {
        return List.of(
            new State("new", LeftQuills::new, 0, 0, Set.of("whet", "drift", "undo", "goBack 0", "goBack 1"), Set.of()),
            new State("blade alone", () -> Due.with("o1 1;"), 0, 0, Set.of("undo", "goBack 0", "goBack 1"), Set.of()),
            new State("no hands", () -> Due.with("o1 1;q0 1 0 4 9;q0 1 0 5 8;"), 2, 0, Set.of("undo", "goBack 0", "goBack 1", "mend 0", "broaden 0"), Set.of()),
            new State("no quills", () -> Due.with("o1 1;h0 1 1;h1 9 9;"), 0, 2, Set.of("undo", "goBack 0", "goBack 1"), Set.of()),
            new State("in use", Edge::busy, 2, 2, Set.of("goBack 1", "mend 1"), Set.of()),
            new State("all is full", RefusalsTest::allIsFull, 2, 2, Set.of("undo", "goBack 0", "mend 0", "broaden 1"), Set.of("feed", "worn", "note")),
            new State("over time", () -> Edge.overTime("o1 1;q0 2 9 4 5;q0 2 9 5 9;h0 1 5;"), 2, 1, Set.of("goBack 0", "goBack 1", "mend 0", "broaden 1"), TIMED));
    }

    private static LeftQuills allIsFull() {
        LeftQuills x = Due.with("o1 1;q0 2 9 4 5;q0 2 9 5 9;h0 1 5;h1 9 5;");
        for (int i = 0; i < 6; i++) {
            x.worn(0, 1, 1);
        }
        for (int i = 0; i < 15; i++) {
            x.note(0, 0);
        }
        x.keep(1);
        Due.feed(x, Edge.TEXT + " ".repeat(220 - Edge.TEXT.length()));
        return x;
    }

    /** All ways to fill the arguments from the one at on. */
    private static void every(State state, Call call, int[] values, int at) {
        if (at >= values.length) {
            one(state, call, values);
            return;
        }
        for (int value : edges(bound(state, call.arguments.get(at), values))) {
            values[at] = value;
            every(state, call, values, at + 1);
        }
    }

    /** The least and the most that it may be, by what there is. */
    private static Argument bound(State state, Argument argument, int[] values) {
        switch (argument.kind) {
            case 'q': return new Argument('q', 0, state.quills - 1);
            case 'h': return new Argument('h', 0, state.hands - 1);
            case 'w': return new Argument('w', -1, state.hands - 1);
            case 'i': return new Argument('i', 0, 1);
            case 'p': return new Argument('n', -1, Math.max(0, Math.min(4, values[1])) - 1);
            default: return argument;
        }
    }

    private static int[] edges(Argument bound) {
        long[] all = {Integer.MIN_VALUE, bound.least - 1L, bound.least, bound.most, bound.most + 1L, Integer.MAX_VALUE};
        return Arrays.stream(all).filter(v -> v >= Integer.MIN_VALUE && v <= Integer.MAX_VALUE).distinct().mapToInt(v -> (int) v).toArray();
    }

    /** The refusal that is due, or 0. */
    private static int refusal(State state, Call call, int[] values) {
        for (int kind = 0; kind < 2; kind++) {
            for (int i = 0; i < values.length; i++) {
                Argument bound = bound(state, call.arguments.get(i), values);
                boolean isBeyond = values[i] < bound.least || values[i] > bound.most;
                if (isBeyond && bound.isThing() == (kind == 0)) {
                    return kind == 0 ? UNKNOWN : OUTSIDE;
                }
            }
        }
        if (state.not.contains(call.name) || values.length > 0 && state.not.contains(call.name + " " + values[0])) {
            return NOT;
        }
        return state.full.contains(call.name) ? FULL : 0;
    }

    private static void one(State state, Call call, int[] values) {
        LeftQuills x = state.made.get();
        String what = state.name + ": " + call.name + Arrays.toString(values);
        int answer = answer(what, x, call.name, values);
        int refusal = refusal(state, call, values);
        DUE.is(what + " refused by", Edge.isRefusal(answer) ? answer : 0, refusal);
        if (Edge.isRefusal(answer) || ONLY_ASKS.contains(call.name)) {
            DUE.same(what + " changed something", Shown.of(x), Shown.of(state.made.get()));
        }
    }

    private static int answer(String what, LeftQuills x, String name, int[] values) {
        Class<?>[] types = new Class<?>[values.length];
        Arrays.fill(types, int.class);
        try {
            Method method = LeftQuills.class.getMethod(name, types);
            return (int) method.invoke(x, Arrays.stream(values).boxed().toArray());
        } catch (InvocationTargetException thrown) {
            DUE.is(what + " threw " + thrown.getCause(), 1, 0);
            return 0;
        } catch (ReflectiveOperationException missing) {
            DUE.is(what + " is not there", 1, 0);
            return 0;
        }
    }
}
