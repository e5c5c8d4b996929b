import java.util.ArrayList;
import java.util.List;

/**
 * All that an object shows of its state, also what only undo(), goBack() and office() show: the object is used up by
 * it, so two objects made alike are compared, one of them with one call more.
 */
final class Shown {
    private final LeftQuills x;
    private final List<String> lines = new ArrayList<>();

    private Shown(LeftQuills x) {
        this.x = x;
    }

    static List<String> of(LeftQuills x) {
        Shown shown = new Shown(x);
        shown.told();
        shown.worn();
        shown.undone();
        shown.images();
        shown.text();
        return shown.lines;
    }

    private void line(String call, int answer) {
        lines.add(call + " shows " + answer);
    }

    private void told() {
        line("fault()", x.fault());
        for (int what = 0; what <= 4; what++) {
            line("told(" + what + ")", x.told(what));
        }
        for (int q = 0; q < x.told(2); q++) {
            for (int what : new int[] {0, 1, 2, 5}) {
                line("quill(" + q + ", " + what + ")", x.quill(q, what));
            }
        }
        for (int h = 0; h < x.told(3); h++) {
            for (int what = 0; what <= 2; what++) {
                line("hand(" + h + ", " + what + ")", x.hand(h, what));
            }
        }
        desk();
    }

    private void desk() {
        for (int what = 5; what <= 9; what++) {
            line("told(" + what + ")", x.told(what));
        }
        line("told(12)", x.told(12));
        for (int q = 0; q < x.told(2); q++) {
            line("length of " + q, x.quill(q, 3));
            line("nib of " + q, x.quill(q, 4));
            line("softness of " + q, x.quill(q, 6));
        }
        for (int h = 0; h < x.told(3); h++) {
            line("pages of " + h, x.hand(h, 3));
            line("good ones of " + h, x.hand(h, 4));
        }
        int seed = x.seed(0);
        x.seed(seed);
        line("the seed", seed);
    }

    private void worn() {
        line("told(10)", x.told(10));
        line("told(11)", x.told(11));
        line("whose()", x.whose());
        line("lookAt()", x.lookAt());
        line("judge()", x.judge());
    }

    private void undone() {
        int left = x.undo();
        line("undo()", left);
        for (int i = 0; i < 25 && left >= 0; i++) {
            desk();
            left = x.undo();
            line("undo()", left);
        }
    }

    private void images() {
        for (int i = 0; i <= 1; i++) {
            line("goBack(" + i + ")", x.goBack(i));
            desk();
        }
    }

    private void text() {
        line("office() of the text", x.office());
        told();
    }
}
