import java.util.ArrayDeque;
import java.util.ArrayList;
import java.util.Arrays;
import java.util.Deque;
import java.util.HashMap;
import java.util.List;
import java.util.Map;

/**
 * The document once more, by the plainest means: everything is copied and tried out page by page, every way is gone
 * through. It shares no code and no shortcut with LeftQuills, so that both are wrong alike only if both read wrong.
 */
final class Model {
    static final int NONE = -1, UNKNOWN = -1000000001, OUTSIDE = -1000000002, NOT = -1000000003, FULL = -1000000004;

    static final class Quill {
        int wing, place, cooked, length, nib, soft;

        Quill copy() {
            Quill c = new Quill();
            c.wing = wing;
            c.place = place;
            c.cooked = cooked;
            c.length = length;
            c.nib = nib;
            c.soft = soft;
            return c;
        }

        int hard() {
            return 2 + cooked + new int[] {0, 1, 3, 3, 2, 1}[place];
        }
    }

    static final class Hand {
        int side, presses, nib, pages, good;

        Hand copy() {
            Hand c = new Hand();
            c.side = side;
            c.presses = presses;
            c.nib = nib;
            c.pages = pages;
            c.good = good;
            return c;
        }
    }

    static final class State {
        boolean office;
        int b, m, minutes, cuts;
        List<Quill> quills = new ArrayList<>();
        List<Hand> hands = new ArrayList<>();

        State copy() {
            State c = new State();
            c.office = office;
            c.b = b;
            c.m = m;
            c.minutes = minutes;
            c.cuts = cuts;
            quills.forEach(q -> c.quills.add(q.copy()));
            hands.forEach(h -> c.hands.add(h.copy()));
            return c;
        }

        boolean page(int q, int h) {
            Quill quill = quills.get(q);
            Hand hand = hands.get(h);
            int softer = 12 * hand.presses / quill.hard();
            if (softer < 1) {
                softer = 1;
            }
            boolean leftWing = quill.wing == 0;
            boolean rightHand = hand.side == 0;
            if (leftWing != rightHand) {
                softer += 4;
            }
            quill.soft = Math.min(99, quill.soft + softer);
            int beside = quill.nib - hand.nib;
            boolean good = quill.soft <= 50 && beside >= -1 && beside <= 1;
            hand.pages++;
            hand.good += good ? 1 : 0;
            minutes += 2;
            return good;
        }

        void dry(int q, int hours) {
            Quill quill = quills.get(q);
            int third = quill.soft / 3;
            int less = quill.soft - 8 * hours;
            quill.soft = less < third ? third : less;
        }

        boolean mend(int q) {
            Quill quill = quills.get(q);
            boolean blunt = cuts >= b;
            if (quill.length - (blunt ? 9 : 5) < 0) {
                return false;
            }
            quill.length -= blunt ? 9 : 5;
            quill.nib = Math.min(9, quill.nib + (blunt ? 1 : 0));
            quill.soft = 0;
            cuts++;
            minutes += m;
            return true;
        }
    }

    record Token(int kind, int at, int figures, int value) { }

    record Worn(int quill, int pages, int soft) { }

    record Entry(int quill, int soft) { }

    record Image(State state, long seed) { }

    private static final Map<Character, int[][]> BOUNDS = Map.of(
        'o', new int[][] {{1, 20}, {1, 20}},
        'q', new int[][] {{0, 1}, {1, 5}, {0, 9}, {0, 99}, {1, 9}},
        'h', new int[][] {{0, 1}, {1, 9}, {1, 9}});
    private static final Map<Character, Integer> MOST = Map.of('o', 1, 'q', 8, 'h', 4);

    private StringBuilder text = new StringBuilder();
    private int fault = NONE;
    private long seed = 0;
    private State now = new State();
    private final Deque<State> undone = new ArrayDeque<>();
    private final Map<Integer, Image> images = new HashMap<>();
    private final List<Worn> wornOnes = new ArrayList<>();
    private final List<Entry> book = new ArrayList<>();

    int feed(int letter) {
        if (letter < 0 || letter > 255) {
            return OUTSIDE;
        }
        if (text.length() == 220) {
            return FULL;
        }
        text.append((char) letter);
        return text.length();
    }

    int office() {
        String all = text.toString();
        text = new StringBuilder();
        State made = new State();
        int[] found = read(tokens(all), made);
        fault = found[1];
        if (found[0] != 0) {
            return -10 - found[0];
        }
        now = made;
        undone.clear();
        images.clear();
        wornOnes.clear();
        book.clear();
        return now.quills.size();
    }

    private static List<Token> tokens(String all) {
        List<Token> tokens = new ArrayList<>();
        int at = 0;
        while (at < all.length()) {
            char c = all.charAt(at);
            if (c == ' ') {
                at++;
            } else if (c >= '0' && c <= '9') {
                int end = at;
                while (end < all.length() && all.charAt(end) >= '0' && all.charAt(end) <= '9') {
                    end++;
                }
                int value = end - at > 3 ? 0 : Integer.parseInt(all.substring(at, end));
                tokens.add(new Token('#', at, end - at, value));
                at = end;
            } else {
                tokens.add(new Token(c, at, 0, 0));
                at++;
            }
        }
        tokens.add(new Token('$' + 1000, all.length(), 0, 0));
        return tokens;
    }

    private static int[] read(List<Token> tokens, State made) {
        Map<Character, Integer> seen = new HashMap<>();
        int t = 0;
        while (true) {
            Token word = tokens.get(t++);
            if (t == tokens.size()) {
                return new int[] {0, NONE};
            }
            char kind = (char) word.kind();
            if (!BOUNDS.containsKey(kind) || (!made.office && kind != 'o')) {
                return new int[] {1, word.at()};
            }
            if (seen.merge(kind, 1, Integer::sum) > MOST.get(kind)) {
                return new int[] {3, word.at()};
            }
            List<Integer> numbers = new ArrayList<>();
            for (int[] bound : BOUNDS.get(kind)) {
                Token number = tokens.get(t++);
                if (number.figures() == 0) {
                    return new int[] {1, number.at()};
                }
                if (number.figures() > 3 || number.value() < bound[0] || number.value() > bound[1]) {
                    return new int[] {2, number.at()};
                }
                numbers.add(number.value());
            }
            Token end = tokens.get(t++);
            if (end.kind() != ';') {
                return new int[] {1, end.at()};
            }
            take(made, kind, numbers);
        }
    }

    private static void take(State made, char kind, List<Integer> numbers) {
        if (kind == 'o') {
            made.office = true;
            made.b = numbers.get(0);
            made.m = numbers.get(1);
        } else if (kind == 'q') {
            Quill quill = new Quill();
            quill.wing = numbers.get(0);
            quill.place = numbers.get(1);
            quill.cooked = numbers.get(2);
            quill.length = numbers.get(3);
            quill.nib = numbers.get(4);
            made.quills.add(quill);
        } else {
            Hand hand = new Hand();
            hand.side = numbers.get(0);
            hand.presses = numbers.get(1);
            hand.nib = numbers.get(2);
            made.hands.add(hand);
        }
    }

    int fault() {
        return fault;
    }

    int told(int what) {
        if (what < 0 || what > 12) {
            return OUTSIDE;
        }
        int soft = 0;
        for (int q = 0; q < now.quills.size(); q++) {
            soft += now.quills.get(q).soft > 50 ? (int) Math.pow(2, q) : 0;
        }
        return new int[] {now.b, now.m, now.quills.size(), now.hands.size(), text.length(), now.minutes, now.cuts,
            now.hands.stream().mapToInt(h -> h.pages).sum(), now.hands.stream().mapToInt(h -> h.good).sum(), soft,
            wornOnes.size(), book.size(), undone.size()}[what];
    }

    private boolean noQuill(int q) {
        return q < 0 || q >= now.quills.size();
    }

    private boolean noHand(int h) {
        return h < 0 || h >= now.hands.size();
    }

    int quill(int q, int what) {
        if (noQuill(q)) {
            return UNKNOWN;
        }
        if (what < 0 || what > 6) {
            return OUTSIDE;
        }
        Quill x = now.quills.get(q);
        return new int[] {x.wing, x.place, x.cooked, x.length, x.nib, x.hard(), x.soft}[what];
    }

    int hand(int h, int what) {
        if (noHand(h)) {
            return UNKNOWN;
        }
        if (what < 0 || what > 4) {
            return OUTSIDE;
        }
        Hand x = now.hands.get(h);
        return new int[] {x.side, x.presses, x.nib, x.pages, x.good}[what];
    }

    private void done() {
        undone.push(now.copy());
        if (undone.size() > 20) {
            undone.removeLast();
        }
    }

    int write(int q, int h, int n) {
        if (noQuill(q) || noHand(h)) {
            return UNKNOWN;
        }
        if (n < 1 || n > 40) {
            return OUTSIDE;
        }
        done();
        int good = 0;
        for (int i = 0; i < n; i++) {
            good += now.page(q, h) ? 1 : 0;
        }
        return good;
    }

    int dry(int q, int hours) {
        if (noQuill(q)) {
            return UNKNOWN;
        }
        if (hours < 1 || hours > 9) {
            return OUTSIDE;
        }
        done();
        now.dry(q, hours);
        return now.quills.get(q).soft;
    }

    int mend(int q) {
        if (noQuill(q)) {
            return UNKNOWN;
        }
        if (!now.copy().mend(q)) {
            return NOT;
        }
        done();
        now.mend(q);
        return now.quills.get(q).length;
    }

    int broaden(int q) {
        if (noQuill(q)) {
            return UNKNOWN;
        }
        if (now.quills.get(q).nib == 9) {
            return NOT;
        }
        done();
        now.cuts++;
        return ++now.quills.get(q).nib;
    }

    int whet() {
        if (!now.office) {
            return NOT;
        }
        done();
        int cuts = now.cuts;
        now.cuts = 0;
        now.minutes += 5;
        return cuts;
    }

    private int draw(int n) {
        seed = (seed * 1103515245L + 12345L) % (1L << 31);
        return (int) (seed / 65536 % n);
    }

    int drift(int n) {
        if (n < 1 || n > 60) {
            return OUTSIDE;
        }
        if (!now.office) {
            return NOT;
        }
        done();
        for (int i = 0; i < n && !now.quills.isEmpty() && !now.hands.isEmpty(); i++) {
            int q = draw(now.quills.size());
            int h = draw(now.hands.size());
            int what = draw(3);
            if (what == 0) {
                now.mend(q);
            } else if (what == 1) {
                now.dry(q, 1);
            } else {
                now.page(q, h);
            }
        }
        return now.minutes;
    }

    int undo() {
        if (undone.isEmpty()) {
            return NOT;
        }
        now = undone.pop();
        return undone.size();
    }

    int goodPages(int q, int h) {
        if (noQuill(q) || noHand(h)) {
            return UNKNOWN;
        }
        State tried = now.copy();
        int good = 0;
        while (good < 999 && tried.page(q, h)) {
            good++;
        }
        return good;
    }

    int life(int q, int h) {
        if (noQuill(q) || noHand(h)) {
            return UNKNOWN;
        }
        State tried = now.copy();
        int good = 0;
        while (good < 999) {
            if (!tried.copy().page(q, h)) {
                tried.cuts = 0;
                if (!tried.mend(q) || !tried.copy().page(q, h)) {
                    break;
                }
            }
            tried.page(q, h);
            good++;
        }
        return good;
    }

    int toWhom(int h) {
        if (h != NONE && noHand(h)) {
            return UNKNOWN;
        }
        int quills = now.quills.size();
        int hands = now.hands.size();
        if (quills < hands) {
            return NONE;
        }
        int[][] good = new int[hands][quills];
        for (int k = 0; k < hands; k++) {
            for (int q = 0; q < quills; q++) {
                good[k][q] = goodPages(q, k);
            }
        }
        int best = -1;
        int[] bestWay = null;
        int ways = (int) Math.pow(quills, hands);
        for (int way = 0; way < Math.max(1, ways); way++) {
            int[] of = new int[hands];
            int rest = way;
            for (int k = hands - 1; k >= 0; k--) {
                of[k] = rest % quills;
                rest /= quills;
            }
            if (Arrays.stream(of).distinct().count() < hands) {
                continue;
            }
            int sum = 0;
            for (int k = 0; k < hands; k++) {
                sum += good[k][of[k]];
            }
            if (sum > best) {
                best = sum;
                bestWay = of;
            }
        }
        return h == NONE ? best : bestWay[h];
    }

    int fastest(int h, int n, int i) {
        if (noHand(h)) {
            return UNKNOWN;
        }
        if (n < 1 || n > 4 || i < NONE || i >= n) {
            return OUTSIDE;
        }
        int choices = 2 * now.quills.size();
        int best = Integer.MAX_VALUE;
        int[] bestWay = null;
        long ways = Math.round(Math.pow(choices, n));
        for (int way = 0; way < ways; way++) {
            int[] of = new int[n];
            int rest = way;
            for (int k = n - 1; k >= 0; k--) {
                of[k] = rest % choices;
                rest /= choices;
            }
            int minutes = minutesOf(of, h);
            if (minutes < best) {
                best = minutes;
                bestWay = of;
            }
        }
        if (bestWay == null) {
            return NONE;
        }
        return i == NONE ? best : bestWay[i] / 2 + 10 * (bestWay[i] % 2);
    }

    private int minutesOf(int[] of, int h) {
        State tried = now.copy();
        int taken = 0;
        for (int k = 0; k < of.length; k++) {
            int q = of[k] / 2;
            if (k > 0 && of[k - 1] / 2 != q) {
                taken++;
            }
            if (of[k] % 2 == 1 && !tried.mend(q)) {
                return Integer.MAX_VALUE;
            }
            if (!tried.page(q, h)) {
                return Integer.MAX_VALUE;
            }
        }
        return tried.minutes - now.minutes + taken;
    }

    int byTurns(int q, int h) {
        if (noQuill(q) || noHand(h)) {
            return UNKNOWN;
        }
        for (int k = 1; k <= 9; k++) {
            State tried = now.copy();
            tried.quills.clear();
            for (int j = 0; j < k; j++) {
                tried.quills.add(now.quills.get(q).copy());
            }
            boolean all = true;
            for (int page = 0; page < 20; page++) {
                int writer = page % k;
                all &= tried.page(writer, h);
                for (int j = 0; j < k; j++) {
                    if (j != writer) {
                        tried.dry(j, 1);
                    }
                }
            }
            if (all) {
                return k;
            }
        }
        return NONE;
    }

    int dearer() {
        int answer = 100000;
        for (int h = 0; h < now.hands.size(); h++) {
            for (int q = 0; q < now.quills.size(); q++) {
                answer += goodPages(q, h) * (now.quills.get(q).wing == 0 ? 1 : -1);
            }
        }
        return answer;
    }

    int geese(int q, int h, int n) {
        if (noQuill(q) || noHand(h)) {
            return UNKNOWN;
        }
        if (n < 1 || n > 99999) {
            return OUTSIDE;
        }
        int life = life(q, h);
        if (life == 0) {
            return NONE;
        }
        int geese = 0;
        for (int pages = 0; pages < n; pages += 10 * life) {
            geese++;
        }
        return geese;
    }

    int crooked(int n, int q) {
        if (n < 0 || n > 60 || q < 0 || q > 100) {
            return OUTSIDE;
        }
        long odds = 1000000000L;
        for (int i = 0; i < n; i++) {
            odds = odds * (100 - Math.min(100, q + 3 * now.cuts)) / 100;
        }
        return (int) odds;
    }

    int worn(int q, int n, int soft) {
        if (noQuill(q)) {
            return UNKNOWN;
        }
        if (n < 1 || n > 9 || soft < 0 || soft > 99) {
            return OUTSIDE;
        }
        if (wornOnes.size() == 6) {
            return FULL;
        }
        wornOnes.add(new Worn(q, n, soft));
        return wornOnes.size();
    }

    int softBehind(int q, int h, int pages) {
        State tried = now.copy();
        tried.quills.get(q).soft = 0;
        for (int i = 0; i < pages; i++) {
            tried.page(q, h);
        }
        return tried.quills.get(q).soft;
    }

    private List<Integer> fitting() {
        List<Integer> fitting = new ArrayList<>();
        for (int h = 0; h < now.hands.size(); h++) {
            int hand = h;
            if (wornOnes.stream().allMatch(w -> softBehind(w.quill(), hand, w.pages()) == w.soft())) {
                fitting.add(h);
            }
        }
        return fitting;
    }

    int whose() {
        return fitting().stream().mapToInt(h -> 1 << h).sum();
    }

    int lookAt() {
        List<Integer> hands = fitting();
        int bestPart = Integer.MAX_VALUE;
        int best = NONE;
        for (int q = 0; q < now.quills.size(); q++) {
            Map<Integer, Integer> parts = new HashMap<>();
            for (int h : hands) {
                parts.merge(softBehind(q, h, 1), 1, Integer::sum);
            }
            int part = parts.values().stream().mapToInt(v -> v).max().orElse(0);
            if (parts.size() > 1 && part < bestPart) {
                bestPart = part;
                best = q;
            }
        }
        return best;
    }

    int note(int q, int soft) {
        if (noQuill(q)) {
            return UNKNOWN;
        }
        if (soft < 0 || soft > 99) {
            return OUTSIDE;
        }
        if (book.size() == 15) {
            return FULL;
        }
        book.add(new Entry(q, soft));
        return book.size();
    }

    int tear() {
        int both = wornOnes.size() + book.size();
        wornOnes.clear();
        book.clear();
        return both;
    }

    int judge() {
        for (Entry entry : book) {
            if (now.quills.get(entry.quill()).soft != entry.soft()) {
                return book.indexOf(entry);
            }
        }
        return NONE;
    }

    int seed(int v) {
        if (v < 0) {
            return OUTSIDE;
        }
        int was = (int) seed;
        seed = v;
        return was;
    }

    int keep(int i) {
        if (i != 0 && i != 1) {
            return UNKNOWN;
        }
        images.put(i, new Image(now.copy(), seed));
        undone.clear();
        return 1;
    }

    int goBack(int i) {
        if (i != 0 && i != 1) {
            return UNKNOWN;
        }
        if (!images.containsKey(i)) {
            return NOT;
        }
        now = images.get(i).state().copy();
        seed = images.get(i).seed();
        undone.clear();
        return 1;
    }
}
