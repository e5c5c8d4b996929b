import java.util.List;

/** Counts the answers that are not the ones that are due. */
final class Due {
    private int wrong = 0;
    private int asked = 0;

    void is(String what, long got, long want) {
        asked++;
        if (got != want) {
            wrong++;
            System.out.println(what + " answered " + got + ", due is " + want);
        }
    }

    /** Like lines, or the first that is not told. */
    void same(String what, List<String> got, List<String> want) {
        asked++;
        if (got.equals(want)) {
            return;
        }
        wrong++;
        int at = 0;
        while (at < got.size() && at < want.size() && got.get(at).equals(want.get(at))) {
            at++;
        }
        System.out.println(what + ": " + (at < got.size() ? got.get(at) : "no more") + ", due is " + (at < want.size() ? want.get(at) : "no more"));
    }

    /** Exit code 1, if an answer was wrong. */
    void end() {
        System.out.println(wrong == 0 ? asked + " answers are as due" : wrong + " of " + asked + " answers are not as due");
        if (wrong != 0) {
            System.exit(1);
        }
    }

    static void feed(LeftQuills x, String text) {
        for (int i = 0; i < text.length(); i++) {
            x.feed(text.charAt(i));
        }
    }

    /** What office() answers to the text. */
    static int office(LeftQuills x, String text) {
        feed(x, text);
        return x.office();
    }

    /** A new object with the office of the text. */
    static LeftQuills with(String text) {
        LeftQuills x = new LeftQuills();
        office(x, text);
        return x;
    }
}
