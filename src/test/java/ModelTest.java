import java.util.ArrayList;
import java.util.List;
import java.util.Random;

/** Long runs of drawn calls: LeftQuills answers as the Model does. The draws are always the same ones. */
public final class ModelTest {
    private static final int RUNS = 400;
    private static final int CALLS = 512;
    private static final int[] ODD = {-1, -2, 0, 1, 9, 10, 40, 41, 60, 61, 99, 100, 101, Integer.MIN_VALUE, Integer.MAX_VALUE};
    private static final Due DUE = new Due();

    private final Random random;
    private final LeftQuills x = new LeftQuills();
    private final Model model = new Model();
    private final List<String> calls = new ArrayList<>();
    private int left = CALLS;
    private boolean differs = false;

    private ModelTest(int run) {
        random = new Random(20261118L + run);
    }

    public static void main(String[] args) {
        int runs = args.length > 0 ? Integer.parseInt(args[0]) : RUNS;
        for (int run = 0; run < runs; run++) {
            new ModelTest(run).go();
        }
        DUE.end();
    }

    private void go() {
        if (random.nextInt(4) > 0) {
            text(goodText());
        }
        while (left > 0 && !differs) {
            step();
        }
    }

    private void check(String call, int got, int want) {
        calls.add(call + " = " + got);
        left--;
        DUE.is(call, got, want);
        if (got != want) {
            differs = true;
            System.out.println("behind " + calls);
        }
    }

    private void text(String text) {
        for (int i = 0; i < text.length() && left > 0; i++) {
            int letter = text.charAt(i);
            check("feed(" + letter + ")", x.feed(letter), model.feed(letter));
        }
        check("office()", x.office(), model.office());
        check("fault()", x.fault(), model.fault());
    }

    private String blanks(int least) {
        return " ".repeat(random.nextInt(12) == 0 ? 2 : least);
    }

    private int upTo(int least, int most) {
        int kind = random.nextInt(6);
        return kind == 0 ? least : kind == 1 ? most : least + random.nextInt(most - least + 1);
    }

    private String clause(char word, int... bounds) {
        StringBuilder s = new StringBuilder().append(word);
        for (int i = 0; i < bounds.length; i += 2) {
            s.append(blanks(i == 0 ? 0 : 1)).append(upTo(bounds[i], bounds[i + 1]));
        }
        return s.append(blanks(0)).append(';').append(blanks(0)).toString();
    }

    private String goodText() {
        StringBuilder s = new StringBuilder(clause('o', 1, random.nextBoolean() ? 3 : 20, 1, random.nextBoolean() ? 3 : 20));
        int quills = upTo(0, 8);
        int hands = upTo(0, 4);
        int nib = upTo(1, 7);
        for (int i = 0; i < quills; i++) {
            s.append(clause('q', 0, 1, 1, 5, 0, 9, 0, random.nextBoolean() ? 20 : 99, nib, nib + 2));
        }
        for (int i = 0; i < hands; i++) {
            s.append(clause('h', 0, 1, 1, 9, nib, nib + 2));
        }
        return s.toString();
    }

    private String spoiled(String good) {
        StringBuilder s = new StringBuilder(good);
        String signs = "oqh; 0123456789x\u0000\u00ff\t,";
        for (int n = 1 + random.nextInt(2); n > 0 && s.length() > 0; n--) {
            int at = random.nextInt(s.length());
            char sign = signs.charAt(random.nextInt(signs.length()));
            switch (random.nextInt(5)) {
                case 0 -> s.deleteCharAt(at);
                case 1 -> s.insert(at, sign);
                case 2 -> s.setCharAt(at, sign);
                case 3 -> s.setLength(at);
                default -> s.append(good, 0, Math.min(30, good.length()));
            }
        }
        return s.toString();
    }

    private int some(int bound) {
        return random.nextInt(25) == 0 ? ODD[random.nextInt(ODD.length)] : random.nextInt(Math.max(1, bound));
    }

    private int q() {
        return some(model.told(2));
    }

    private int h() {
        return some(model.told(3));
    }

    private void step() {
        switch (random.nextInt(8)) {
            case 0 -> rare();
            case 1, 2, 3 -> doSomething();
            case 4 -> ask();
            case 5, 6 -> tryOut();
            default -> wear();
        }
    }

    private void rare() {
        switch (random.nextInt(12)) {
            case 0 -> text(random.nextInt(6) == 0 ? blanks(random.nextInt(4)) : goodText());
            case 1 -> text(spoiled(goodText()));
            case 2, 3 -> text(spoiled(clause('o', 1, 20, 1, 20) + clause('q', 0, 1, 1, 5, 0, 9, 0, 99, 1, 9)));
            case 4 -> {
                int v = random.nextInt(4) == 0 ? ODD[random.nextInt(ODD.length)] : random.nextInt();
                check("seed(" + v + ")", x.seed(v), model.seed(v));
            }
            case 5, 6, 7 -> {
                int i = some(2);
                check("keep(" + i + ")", x.keep(i), model.keep(i));
            }
            case 8, 9, 10 -> {
                int i = some(2);
                check("goBack(" + i + ")", x.goBack(i), model.goBack(i));
            }
            default -> check("tear()", x.tear(), model.tear());
        }
    }

    private void doSomething() {
        int q = q();
        int h = h();
        switch (random.nextInt(12)) {
            case 0, 1, 2 -> {
                int n = random.nextInt(3) > 0 ? 1 + some(4) : 1 + some(40);
                check("write(" + q + ", " + h + ", " + n + ")", x.write(q, h, n), model.write(q, h, n));
            }
            case 3 -> {
                int hours = 1 + some(9);
                check("dry(" + q + ", " + hours + ")", x.dry(q, hours), model.dry(q, hours));
            }
            case 4, 5 -> check("mend(" + q + ")", x.mend(q), model.mend(q));
            case 6 -> check("broaden(" + q + ")", x.broaden(q), model.broaden(q));
            case 7 -> check("whet()", x.whet(), model.whet());
            case 8 -> {
                int n = 1 + some(random.nextInt(4) == 0 ? 60 : 5);
                check("drift(" + n + ")", x.drift(n), model.drift(n));
            }
            default -> check("undo()", x.undo(), model.undo());
        }
    }

    private void ask() {
        int what = some(13);
        int q = q();
        int h = h();
        switch (random.nextInt(3)) {
            case 0 -> check("told(" + what + ")", x.told(what), model.told(what));
            case 1 -> check("quill(" + q + ", " + what % 8 + ")", x.quill(q, what % 8), model.quill(q, what % 8));
            default -> check("hand(" + h + ", " + what % 6 + ")", x.hand(h, what % 6), model.hand(h, what % 6));
        }
    }

    private void tryOut() {
        int q = q();
        int h = h();
        String both = "(" + q + ", " + h;
        switch (random.nextInt(10)) {
            case 0 -> check("goodPages" + both + ")", x.goodPages(q, h), model.goodPages(q, h));
            case 1 -> check("life" + both + ")", x.life(q, h), model.life(q, h));
            case 2, 3 -> {
                int whom = random.nextInt(3) == 0 ? -1 : h;
                check("toWhom(" + whom + ")", x.toWhom(whom), model.toWhom(whom));
            }
            case 4, 5 -> {
                int n = random.nextInt(6) == 0 ? 4 : 1 + some(3);
                int i = random.nextInt(3) == 0 ? -1 : some(n);
                check("fastest(" + h + ", " + n + ", " + i + ")", x.fastest(h, n, i), model.fastest(h, n, i));
            }
            case 6 -> check("byTurns" + both + ")", x.byTurns(q, h), model.byTurns(q, h));
            case 7 -> check("dearer()", x.dearer(), model.dearer());
            case 8 -> {
                int n = random.nextInt(8) == 0 ? ODD[random.nextInt(ODD.length)] : random.nextInt(100001);
                check("geese" + both + ", " + n + ")", x.geese(q, h, n), model.geese(q, h, n));
            }
            default -> {
                int n = some(62);
                int of = some(40);
                check("crooked(" + n + ", " + of + ")", x.crooked(n, of), model.crooked(n, of));
            }
        }
    }

    /** What is told worn is mostly so by some hand, as else nothing would ever fit. */
    private void wear() {
        int q = q();
        switch (random.nextInt(7)) {
            case 0 -> {
                int n = 1 + some(9);
                boolean canBe = q >= 0 && q < model.told(2) && model.told(3) > 0 && n >= 1 && n <= 9;
                int soft = canBe && random.nextInt(8) > 0 ? model.softBehind(q, random.nextInt(model.told(3)), n) : some(100);
                check("worn(" + q + ", " + n + ", " + soft + ")", x.worn(q, n, soft), model.worn(q, n, soft));
            }
            case 1 -> check("whose()", x.whose(), model.whose());
            case 2 -> check("lookAt()", x.lookAt(), model.lookAt());
            case 3, 4 -> {
                int soft = random.nextInt(8) > 0 ? Math.max(0, model.quill(q, 6)) : some(100);
                check("note(" + q + ", " + soft + ")", x.note(q, soft), model.note(q, soft));
            }
            case 5 -> check("judge()", x.judge(), model.judge());
            default -> {
                if (random.nextInt(4) == 0) {
                    check("tear()", x.tear(), model.tear());
                }
            }
        }
    }
}
