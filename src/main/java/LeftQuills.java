/** A writing office: quills, hands and a blade, told in a text, used, tried and judged. */
public final class LeftQuills {
    public static final int NONE = -1, UNKNOWN = -1000000001, OUTSIDE = -1000000002, NOT = -1000000003, FULL = -1000000004;

    private static final int BILLION = 1000000000;
    private static final int TEXT_MOST = 220;
    private static final int QUILLS_MOST = 8;
    private static final int HANDS_MOST = 4;
    private static final int SOFTNESS_MOST = 99;
    private static final int FIRM_MOST = 50;
    private static final int NIB_MOST = 9;
    private static final int PAGE_MINUTES = 2;
    private static final int WHET_MINUTES = 5;
    private static final int MINUTES_MOST = 90000;
    private static final int COUNT_MOST = 999;

    private final int[] text = new int[TEXT_MOST];
    private int textLength = 0;
    private int faultAt = NONE;
    private int seed = 0;
    private final Office office = new Office();
    private final Reader reader = new Reader();
    private final Desk desk = new Desk(office);
    private final History history = new History(office);
    private final Images images = new Images(office);
    private final Trials trials = new Trials(office, desk);
    private final Sharing sharing = new Sharing(office, trials);
    private final Race race = new Race(office);
    private final Evidence evidence = new Evidence(office);
    private final Book book = new Book();

    public LeftQuills() {
    }

    // ---- the office

    public int feed(int letter) {
        if (!within(letter, 0, 255)) {
            return OUTSIDE;
        }
        if (textLength >= TEXT_MOST) {
            return FULL;
        }
        text[textLength] = letter;
        textLength++;
        return textLength;
    }

    public int office() {
        int letters = textLength;
        textLength = 0;
        int fault = reader.readText(text, letters);
        faultAt = reader.faultAt;
        if (fault != 0) {
            return -10 - fault;
        }
        office.copyFrom(reader.draft);
        desk.layOut();
        history.forget();
        images.forget();
        evidence.count = 0;
        book.count = 0;
        return office.quills;
    }

    public int fault() {
        return faultAt;
    }

    public int told(int what) {
        switch (what) {
            case 0: return office.bluntBehind;
            case 1: return office.mendMinutes;
            case 2: return office.quills;
            case 3: return office.hands;
            case 4: return textLength;
            case 5: return desk.minutes;
            case 6: return desk.cuts;
            case 7: return desk.allPages();
            case 8: return desk.allGood();
            case 9: return desk.softQuills();
            case 10: return evidence.count;
            case 11: return book.count;
            case 12: return history.count;
            default: return OUTSIDE;
        }
    }

    public int quill(int q, int what) {
        if (!isQuill(q)) {
            return UNKNOWN;
        }
        switch (what) {
            case 0: return office.wing[q];
            case 1: return office.place[q];
            case 2: return office.cooked[q];
            case 3: return desk.length[q];
            case 4: return desk.nib[q];
            case 5: return office.hardness(q);
            case 6: return desk.softness[q];
            default: return OUTSIDE;
        }
    }

    public int hand(int h, int what) {
        if (!isHand(h)) {
            return UNKNOWN;
        }
        switch (what) {
            case 0: return office.side[h];
            case 1: return office.presses[h];
            case 2: return office.wants[h];
            case 3: return desk.pages[h];
            case 4: return desk.good[h];
            default: return OUTSIDE;
        }
    }

    // ---- what is done

    public int write(int q, int h, int n) {
        if (!isQuill(q) || !isHand(h)) {
            return UNKNOWN;
        }
        if (!within(n, 1, 40)) {
            return OUTSIDE;
        }
        if (isOverTime()) {
            return FULL;
        }
        history.push(desk);
        int good = 0;
        for (int i = 0; i < n; i++) {
            if (desk.writePage(q, h)) {
                good++;
            }
        }
        return good;
    }

    public int dry(int q, int hours) {
        if (!isQuill(q)) {
            return UNKNOWN;
        }
        if (!within(hours, 1, 9)) {
            return OUTSIDE;
        }
        history.push(desk);
        desk.softness[q] = driedSoftness(desk.softness[q], hours);
        return desk.softness[q];
    }

    public int mend(int q) {
        if (!isQuill(q)) {
            return UNKNOWN;
        }
        if (!desk.canMend(q)) {
            return NOT;
        }
        if (isOverTime()) {
            return FULL;
        }
        history.push(desk);
        desk.mendQuill(q);
        return desk.length[q];
    }

    public int broaden(int q) {
        if (!isQuill(q)) {
            return UNKNOWN;
        }
        if (desk.nib[q] >= NIB_MOST) {
            return NOT;
        }
        history.push(desk);
        desk.nib[q]++;
        desk.cuts++;
        return desk.nib[q];
    }

    public int whet() {
        if (!office.stands) {
            return NOT;
        }
        if (isOverTime()) {
            return FULL;
        }
        history.push(desk);
        int cuts = desk.cuts;
        desk.cuts = 0;
        desk.minutes += WHET_MINUTES;
        return cuts;
    }

    public int drift(int n) {
        if (!within(n, 1, 60)) {
            return OUTSIDE;
        }
        if (!office.stands) {
            return NOT;
        }
        if (isOverTime()) {
            return FULL;
        }
        history.push(desk);
        if (office.quills > 0 && office.hands > 0) {
            for (int i = 0; i < n; i++) {
                driftOnce();
            }
        }
        return desk.minutes;
    }

    public int undo() {
        if (history.count == 0) {
            return NOT;
        }
        history.popInto(desk);
        return history.count;
    }

    // ---- tried

    public int goodPages(int q, int h) {
        if (!isQuill(q) || !isHand(h)) {
            return UNKNOWN;
        }
        return trials.goodNow(q, h);
    }

    public int life(int q, int h) {
        if (!isQuill(q) || !isHand(h)) {
            return UNKNOWN;
        }
        return trials.goodInLife(q, h);
    }

    public int toWhom(int h) {
        if (h != NONE && !isHand(h)) {
            return UNKNOWN;
        }
        if (office.quills < office.hands) {
            return NONE;
        }
        sharing.find();
        return h == NONE ? sharing.best : sharing.bestQuill[h];
    }

    public int fastest(int h, int n, int i) {
        if (!isHand(h)) {
            return UNKNOWN;
        }
        if (!within(n, 1, Race.PAGES_MOST) || !within(i, NONE, n - 1)) {
            return OUTSIDE;
        }
        if (!race.find(desk, h, n)) {
            return NONE;
        }
        return i == NONE ? race.best : race.bestChoice[i];
    }

    public int byTurns(int q, int h) {
        if (!isQuill(q) || !isHand(h)) {
            return UNKNOWN;
        }
        return trials.fewestByTurns(q, h);
    }

    public int dearer() {
        return 100000 + trials.leftAheadOfRight();
    }

    public int geese(int q, int h, int n) {
        if (!isQuill(q) || !isHand(h)) {
            return UNKNOWN;
        }
        if (!within(n, 1, 99999)) {
            return OUTSIDE;
        }
        int pagesOfGoose = 10 * trials.goodInLife(q, h);
        if (pagesOfGoose <= 0) {
            return NONE;
        }
        return (n + pagesOfGoose - 1) / pagesOfGoose;
    }

    public int crooked(int n, int q) {
        if (!within(n, 0, 60) || !within(q, 0, 100)) {
            return OUTSIDE;
        }
        int straight = 100 - Math.min(100, q + 3 * desk.cuts);
        long odds = BILLION;
        for (int i = 0; i < n; i++) {
            odds = odds * straight / 100;
        }
        return (int) odds;
    }

    // ---- what is worn

    public int worn(int q, int n, int soft) {
        if (!isQuill(q)) {
            return UNKNOWN;
        }
        if (!within(n, 1, 9) || !within(soft, 0, SOFTNESS_MOST)) {
            return OUTSIDE;
        }
        if (evidence.count >= Evidence.MOST) {
            return FULL;
        }
        evidence.add(q, n, soft);
        return evidence.count;
    }

    public int whose() {
        return evidence.fittingHands();
    }

    public int lookAt() {
        return evidence.bestToLookAt();
    }

    public int note(int q, int soft) {
        if (!isQuill(q)) {
            return UNKNOWN;
        }
        if (!within(soft, 0, SOFTNESS_MOST)) {
            return OUTSIDE;
        }
        if (book.count >= Book.MOST) {
            return FULL;
        }
        book.add(q, soft);
        return book.count;
    }

    public int tear() {
        int both = evidence.count + book.count;
        evidence.count = 0;
        book.count = 0;
        return both;
    }

    public int judge() {
        return book.firstWrong(desk);
    }

    // ---- draws, images

    public int seed(int v) {
        if (v < 0) {
            return OUTSIDE;
        }
        int was = seed;
        seed = v;
        return was;
    }

    public int keep(int i) {
        if (!within(i, 0, Images.MOST - 1)) {
            return UNKNOWN;
        }
        images.desks[i].copyFrom(desk);
        images.seeds[i] = seed;
        images.kept[i] = true;
        history.forget();
        return 1;
    }

    public int goBack(int i) {
        if (!within(i, 0, Images.MOST - 1)) {
            return UNKNOWN;
        }
        if (!images.kept[i]) {
            return NOT;
        }
        desk.copyFrom(images.desks[i]);
        seed = images.seeds[i];
        history.forget();
        return 1;
    }

    // ---- what the calls share

    private static boolean within(int value, int least, int most) {
        return value >= least && value <= most;
    }

    private boolean isQuill(int q) {
        return q >= 0 && q < office.quills;
    }

    private boolean isHand(int h) {
        return h >= 0 && h < office.hands;
    }

    private boolean isOverTime() {
        return desk.minutes > MINUTES_MOST;
    }

    private static int driedSoftness(int softness, int hours) {
        return Math.max(softness - 8 * hours, softness / 3);
    }

    private static int softerBy(int softness, int wear) {
        return Math.min(SOFTNESS_MOST, softness + wear);
    }

    private int draw(int n) {
        if (n <= 0) {
            return 0;
        }
        // long, as the product needs up to 62 bits; the mask is what is left over by 2 to the 31
        seed = (int) ((seed * 1103515245L + 12345L) & 0x7fffffffL);
        return seed / 65536 % n;
    }

    private void driftOnce() {
        int q = draw(office.quills);
        int h = draw(office.hands);
        switch (draw(3)) {
            case 0:
                if (desk.canMend(q)) {
                    desk.mendQuill(q);
                }
                break;
            case 1:
                desk.softness[q] = driedSoftness(desk.softness[q], 1);
                break;
            default:
                desk.writePage(q, h);
                break;
        }
    }

    /** What a text tells. Nothing that is done changes it. */
    private static final class Office {
        boolean stands = false;
        int bluntBehind = 0;
        int mendMinutes = 0;
        int quills = 0;
        int hands = 0;
        final int[] wing = new int[QUILLS_MOST];
        final int[] place = new int[QUILLS_MOST];
        final int[] cooked = new int[QUILLS_MOST];
        final int[] toldLength = new int[QUILLS_MOST];
        final int[] toldNib = new int[QUILLS_MOST];
        final int[] side = new int[HANDS_MOST];
        final int[] presses = new int[HANDS_MOST];
        final int[] wants = new int[HANDS_MOST];

        void clear() {
            stands = false;
            bluntBehind = 0;
            mendMinutes = 0;
            quills = 0;
            hands = 0;
        }

        void copyFrom(Office other) {
            stands = other.stands;
            bluntBehind = other.bluntBehind;
            mendMinutes = other.mendMinutes;
            quills = other.quills;
            hands = other.hands;
            System.arraycopy(other.wing, 0, wing, 0, QUILLS_MOST);
            System.arraycopy(other.place, 0, place, 0, QUILLS_MOST);
            System.arraycopy(other.cooked, 0, cooked, 0, QUILLS_MOST);
            System.arraycopy(other.toldLength, 0, toldLength, 0, QUILLS_MOST);
            System.arraycopy(other.toldNib, 0, toldNib, 0, QUILLS_MOST);
            System.arraycopy(other.side, 0, side, 0, HANDS_MOST);
            System.arraycopy(other.presses, 0, presses, 0, HANDS_MOST);
            System.arraycopy(other.wants, 0, wants, 0, HANDS_MOST);
        }

        void setBlade(int[] numbers) {
            stands = true;
            bluntBehind = numbers[0];
            mendMinutes = numbers[1];
        }

        void addQuill(int[] numbers) {
            if (quills >= QUILLS_MOST) {
                return;
            }
            wing[quills] = numbers[0];
            place[quills] = numbers[1];
            cooked[quills] = numbers[2];
            toldLength[quills] = numbers[3];
            toldNib[quills] = numbers[4];
            quills++;
        }

        void addHand(int[] numbers) {
            if (hands >= HANDS_MOST) {
                return;
            }
            side[hands] = numbers[0];
            presses[hands] = numbers[1];
            wants[hands] = numbers[2];
            hands++;
        }

        int hardness(int q) {
            switch (place[q]) {
                case 2:
                case 3: return 2 + cooked[q] + 3;
                case 4: return 2 + cooked[q] + 2;
                default: return 2 + cooked[q] + 1;
            }
        }

        /** Left wings are 0 and so are right hands, so equal numbers fit. */
        boolean fits(int q, int h) {
            return wing[q] == side[h];
        }

        /** How much softer a page makes the quill; "1 at least" binds ahead of "4 more", as the document has it. */
        int wear(int q, int h) {
            // the told bounds keep hardness at 3 or more; the max only shows that nothing is divided by 0
            int softer = Math.max(1, 12 * presses[h] / Math.max(1, hardness(q)));
            return fits(q, h) ? softer : softer + 4;
        }

        boolean likesNib(int h, int nib) {
            return Math.abs(nib - wants[h]) <= 1;
        }
    }

    /** Reads a text into a draft, so that a fault leaves the office as it was. */
    private static final class Reader {
        private static final int CANNOT_STAND = 1, BAD_NUMBER = 2, TOO_MANY = 3;
        private static final int END = -1;
        private static final int FIGURES_MOST = 3;
        private static final int NUMBERS_MOST = 5;
        private static final int[] BLADE_LEAST = {1, 1};
        private static final int[] BLADE_MOST = {20, 20};
        private static final int[] QUILL_LEAST = {0, 1, 0, 0, 1};
        private static final int[] QUILL_MOST = {1, 5, 9, 99, 9};
        private static final int[] HAND_LEAST = {0, 1, 1};
        private static final int[] HAND_MOST = {1, 9, 9};

        final Office draft = new Office();
        int faultAt = NONE;
        private final int[] numbers = new int[NUMBERS_MOST];
        private final int[] letters = new int[TEXT_MOST];
        private int length = 0;
        private int at = 0;
        private int fault = 0;

        /** The number of the fault, or 0. */
        int readText(int[] text, int textLength) {
            draft.clear();
            at = 0;
            fault = 0;
            faultAt = NONE;
            length = Math.max(0, Math.min(textLength, Math.min(text.length, TEXT_MOST)));
            System.arraycopy(text, 0, letters, 0, length);
            // each clause has letters of its own, so there are never more clauses than letters
            for (int clause = 0; clause <= length; clause++) {
                skipBlanks();
                if (fault != 0 || at >= length) {
                    break;
                }
                readClause();
            }
            return fault;
        }

        private void readClause() {
            int word = letterHere();
            if (!draft.stands && word != 'o') {
                fail(CANNOT_STAND, at);
                return;
            }
            switch (word) {
                case 'o':
                    if (startWord(draft.stands) && readNumbers(BLADE_LEAST, BLADE_MOST)) {
                        draft.setBlade(numbers);
                    }
                    break;
                case 'q':
                    if (startWord(draft.quills >= QUILLS_MOST) && readNumbers(QUILL_LEAST, QUILL_MOST)) {
                        draft.addQuill(numbers);
                    }
                    break;
                case 'h':
                    if (startWord(draft.hands >= HANDS_MOST) && readNumbers(HAND_LEAST, HAND_MOST)) {
                        draft.addHand(numbers);
                    }
                    break;
                default:
                    fail(CANNOT_STAND, at);
                    break;
            }
        }

        private boolean startWord(boolean isOneTooMany) {
            if (isOneTooMany) {
                fail(TOO_MANY, at);
                return false;
            }
            at++;
            return true;
        }

        /** The numbers of a clause and the ';' behind them. */
        private boolean readNumbers(int[] least, int[] most) {
            int count = Math.min(NUMBERS_MOST, Math.min(least.length, most.length));
            for (int i = 0; i < count; i++) {
                if (!readNumber(i, least[i], most[i])) {
                    return false;
                }
            }
            skipBlanks();
            if (letterHere() != ';') {
                fail(CANNOT_STAND, at);
                return false;
            }
            at++;
            return true;
        }

        private boolean readNumber(int slot, int least, int most) {
            skipBlanks();
            int first = at;
            int value = 0;
            while (at < length && isFigure(letters[at])) {
                // a longer number is a fault anyway, so its value need not grow on
                if (at - first < FIGURES_MOST) {
                    value = value * 10 + letters[at] - '0';
                }
                at++;
            }
            if (at == first) {
                fail(CANNOT_STAND, at);
                return false;
            }
            if (at - first > FIGURES_MOST || !within(value, least, most)) {
                fail(BAD_NUMBER, first);
                return false;
            }
            numbers[slot] = value;
            return true;
        }

        private void skipBlanks() {
            while (at < length && letters[at] == ' ') {
                at++;
            }
        }

        private int letterHere() {
            return at < length ? letters[at] : END;
        }

        private void fail(int number, int place) {
            fault = number;
            faultAt = place;
        }

        private static boolean isFigure(int letter) {
            return letter >= '0' && letter <= '9';
        }
    }

    /** All that section 2 of the document changes: what is undone and kept in images. */
    private static final class Desk {
        int minutes = 0;
        int cuts = 0;
        final int[] length = new int[QUILLS_MOST];
        final int[] nib = new int[QUILLS_MOST];
        final int[] softness = new int[QUILLS_MOST];
        final int[] pages = new int[HANDS_MOST];
        final int[] good = new int[HANDS_MOST];
        private final Office office;

        Desk(Office office) {
            this.office = office;
        }

        void layOut() {
            minutes = 0;
            cuts = 0;
            for (int q = 0; q < QUILLS_MOST; q++) {
                length[q] = office.toldLength[q];
                nib[q] = office.toldNib[q];
                softness[q] = 0;
            }
            for (int h = 0; h < HANDS_MOST; h++) {
                pages[h] = 0;
                good[h] = 0;
            }
        }

        void copyFrom(Desk other) {
            minutes = other.minutes;
            cuts = other.cuts;
            System.arraycopy(other.length, 0, length, 0, QUILLS_MOST);
            System.arraycopy(other.nib, 0, nib, 0, QUILLS_MOST);
            System.arraycopy(other.softness, 0, softness, 0, QUILLS_MOST);
            System.arraycopy(other.pages, 0, pages, 0, HANDS_MOST);
            System.arraycopy(other.good, 0, good, 0, HANDS_MOST);
        }

        /** Whether the page is good. */
        boolean writePage(int q, int h) {
            softness[q] = softerBy(softness[q], office.wear(q, h));
            boolean isGood = softness[q] <= FIRM_MOST && office.likesNib(h, nib[q]);
            pages[h]++;
            if (isGood) {
                good[h]++;
            }
            minutes += PAGE_MINUTES;
            return isGood;
        }

        boolean isBlunt() {
            return cuts >= office.bluntBehind;
        }

        boolean canMend(int q) {
            return length[q] >= (isBlunt() ? 9 : 5);
        }

        void mendQuill(int q) {
            if (isBlunt()) {
                length[q] -= 9;
                nib[q] = Math.min(NIB_MOST, nib[q] + 1);
            } else {
                length[q] -= 5;
            }
            softness[q] = 0;
            cuts++;
            minutes += office.mendMinutes;
        }

        int allPages() {
            int all = 0;
            for (int h = 0; h < office.hands; h++) {
                all += pages[h];
            }
            return all;
        }

        int allGood() {
            int all = 0;
            for (int h = 0; h < office.hands; h++) {
                all += good[h];
            }
            return all;
        }

        int softQuills() {
            int set = 0;
            for (int q = 0; q < office.quills; q++) {
                if (softness[q] > FIRM_MOST) {
                    set |= 1 << q;
                }
            }
            return set;
        }
    }

    /** How the desk was ahead of the latest things done; the oldest gives way. */
    private static final class History {
        private static final int MOST = 20;
        private final Desk[] desks = new Desk[MOST];
        private int oldest = 0;
        int count = 0;

        History(Office office) {
            for (int i = 0; i < MOST; i++) {
                desks[i] = new Desk(office);
            }
        }

        void forget() {
            count = 0;
        }

        void push(Desk now) {
            desks[(oldest + count) % MOST].copyFrom(now);
            if (count < MOST) {
                count++;
            } else {
                oldest = (oldest + 1) % MOST;
            }
        }

        void popInto(Desk now) {
            if (count <= 0) {
                return;
            }
            count--;
            now.copyFrom(desks[(oldest + count) % MOST]);
        }
    }

    /** Desks and seeds that can be gone back to. */
    private static final class Images {
        private static final int MOST = 2;
        final Desk[] desks = new Desk[MOST];
        final int[] seeds = new int[MOST];
        final boolean[] kept = new boolean[MOST];

        Images(Office office) {
            for (int i = 0; i < MOST; i++) {
                desks[i] = new Desk(office);
            }
        }

        void forget() {
            for (int i = 0; i < MOST; i++) {
                kept[i] = false;
            }
        }
    }

    /** What would be from now on; the desk is only looked at. */
    private static final class Trials {
        private static final int TURNS_MOST = 9;
        private static final int TURN_PAGES = 20;
        private final Office office;
        private final Desk desk;
        private final int[] turnSoftness = new int[TURNS_MOST];

        Trials(Office office, Desk desk) {
            this.office = office;
            this.desk = desk;
        }

        int goodNow(int q, int h) {
            return goodFrom(q, h, desk.softness[q]);
        }

        /** No mend by a sharp blade changes the nib, so a nib that the hand dislikes ends it at once. */
        private int goodFrom(int q, int h, int start) {
            if (!office.likesNib(h, desk.nib[q])) {
                return 0;
            }
            int wear = office.wear(q, h);
            int softness = softerBy(start, wear);
            int good = 0;
            while (good < COUNT_MOST && softness <= FIRM_MOST) {
                good++;
                softness = softerBy(softness, wear);
            }
            return good;
        }

        int goodInLife(int q, int h) {
            int good = goodNow(q, h);
            int goodBehindMend = goodFrom(q, h, 0);
            for (int length = desk.length[q]; length >= 5; length -= 5) {
                good += goodBehindMend;
            }
            return Math.min(COUNT_MOST, good);
        }

        int fewestByTurns(int q, int h) {
            if (!office.likesNib(h, desk.nib[q])) {
                return NONE;
            }
            for (int quills = 1; quills <= TURNS_MOST; quills++) {
                if (turnsDo(quills, desk.softness[q], office.wear(q, h))) {
                    return quills;
                }
            }
            return NONE;
        }

        private boolean turnsDo(int quills, int start, int wear) {
            if (quills < 1 || quills > TURNS_MOST) {
                return false;
            }
            for (int i = 0; i < quills; i++) {
                turnSoftness[i] = start;
            }
            for (int page = 0; page < TURN_PAGES; page++) {
                int writer = page % quills;
                for (int i = 0; i < quills; i++) {
                    turnSoftness[i] = i == writer ? softerBy(turnSoftness[i], wear) : driedSoftness(turnSoftness[i], 1);
                }
                if (turnSoftness[writer] > FIRM_MOST) {
                    return false;
                }
            }
            return true;
        }

        int leftAheadOfRight() {
            int ahead = 0;
            for (int q = 0; q < office.quills; q++) {
                for (int h = 0; h < office.hands; h++) {
                    int good = goodNow(q, h);
                    ahead += office.wing[q] == 0 ? good : -good;
                }
            }
            return ahead;
        }
    }

    /** Which quill to whom: all ways in the order that decides among like ones. */
    private static final class Sharing {
        int best = NONE;
        final int[] bestQuill = new int[HANDS_MOST];
        private final Office office;
        private final Trials trials;
        private final int[] quillOf = new int[HANDS_MOST];
        private final int[] good = new int[HANDS_MOST * QUILLS_MOST];

        Sharing(Office office, Trials trials) {
            this.office = office;
            this.trials = trials;
        }

        void find() {
            for (int h = 0; h < office.hands; h++) {
                for (int q = 0; q < office.quills; q++) {
                    good[h * QUILLS_MOST + q] = trials.goodNow(q, h);
                }
            }
            best = NONE;
            giveFrom(0, 0, 0);
        }

        /** The hands ahead of h have the taken quills, with so many good pages together. */
        private void giveFrom(int h, int taken, int together) {
            if (h >= office.hands || h >= HANDS_MOST) {
                keepIfBetter(together);
                return;
            }
            for (int q = 0; q < office.quills; q++) {
                if ((taken & (1 << q)) == 0) {
                    giveQuill(h, q, taken, together);
                }
            }
        }

        private void giveQuill(int h, int q, int taken, int together) {
            quillOf[h] = q;
            giveFrom(h + 1, taken | (1 << q), together + good[h * QUILLS_MOST + q]);
        }

        /** Only what is really more takes the place, so the first of like ones stays. */
        private void keepIfBetter(int together) {
            if (together > best) {
                best = together;
                System.arraycopy(quillOf, 0, bestQuill, 0, HANDS_MOST);
            }
        }
    }

    /** Fewest minutes for some good pages, searched in the order that decides among like ones. */
    private static final class Race {
        private static final int PAGES_MOST = 4;
        private static final int MENDED = 10;
        private static final int NO_WAY = 1000000;
        int best = NO_WAY;
        final int[] bestChoice = new int[PAGES_MOST];
        private final int[] choice = new int[PAGES_MOST];
        private final Office office;
        private final Desk trial;
        private int hand = 0;
        private int pages = 0;

        Race(Office office) {
            this.office = office;
            this.trial = new Desk(office);
        }

        /** Whether there is a way. */
        boolean find(Desk now, int h, int n) {
            trial.copyFrom(now);
            hand = h;
            pages = Math.min(n, PAGES_MOST);
            best = NO_WAY;
            tryPage(0, NONE, 0);
            return best < NO_WAY;
        }

        private void tryPage(int page, int last, int spent) {
            if (page >= pages) {
                best = spent;
                System.arraycopy(choice, 0, bestChoice, 0, PAGES_MOST);
                return;
            }
            for (int q = 0; q < office.quills; q++) {
                int taking = last == NONE || last == q ? 0 : 1;
                int minutes = spent + taking + PAGE_MINUTES;
                tryQuill(page, q, minutes, false);
                tryQuill(page, q, minutes + office.mendMinutes, true);
            }
        }

        /** The trial desk is put right again behind it, as the next choice starts from the same. */
        private void tryQuill(int page, int q, int minutes, boolean isMended) {
            int leastInAll = minutes + PAGE_MINUTES * (pages - page - 1);
            // a later way of like minutes never wins, so it need not be followed
            if (leastInAll >= best || (isMended && !trial.canMend(q))) {
                return;
            }
            int length = trial.length[q];
            int nib = trial.nib[q];
            int softness = trial.softness[q];
            int cuts = trial.cuts;
            if (isMended) {
                trial.mendQuill(q);
            }
            if (trial.writePage(q, hand)) {
                choice[page] = isMended ? q + MENDED : q;
                tryPage(page + 1, q, minutes);
            }
            trial.length[q] = length;
            trial.nib[q] = nib;
            trial.softness[q] = softness;
            trial.cuts = cuts;
        }
    }

    /** What is told worn, and the hands that it fits. */
    private static final class Evidence {
        private static final int MOST = 6;
        int count = 0;
        private final Office office;
        private final int[] quill = new int[MOST];
        private final int[] pages = new int[MOST];
        private final int[] softness = new int[MOST];

        Evidence(Office office) {
            this.office = office;
        }

        void add(int q, int n, int soft) {
            if (count >= MOST) {
                return;
            }
            quill[count] = q;
            pages[count] = n;
            softness[count] = soft;
            count++;
        }

        int fittingHands() {
            int set = 0;
            for (int h = 0; h < office.hands; h++) {
                if (allFits(h)) {
                    set |= 1 << h;
                }
            }
            return set;
        }

        private boolean allFits(int h) {
            for (int i = 0; i < count; i++) {
                if (softerBy(0, pages[i] * office.wear(quill[i], h)) != softness[i]) {
                    return false;
                }
            }
            return true;
        }

        int bestToLookAt() {
            int hands = fittingHands();
            int bestQuill = NONE;
            // a quill that leaves them all alike parts nothing, so only less than all of them counts
            int least = Integer.bitCount(hands);
            for (int q = 0; q < office.quills; q++) {
                int alike = greatestAlike(q, hands);
                if (alike < least) {
                    least = alike;
                    bestQuill = q;
                }
            }
            return bestQuill;
        }

        private int greatestAlike(int q, int hands) {
            int greatest = 0;
            for (int h = 0; h < office.hands; h++) {
                if ((hands & (1 << h)) != 0) {
                    greatest = Math.max(greatest, alikeTo(h, q, hands));
                }
            }
            return greatest;
        }

        private int alikeTo(int h, int q, int hands) {
            int alike = 0;
            for (int other = 0; other < office.hands; other++) {
                if ((hands & (1 << other)) != 0 && office.wear(q, other) == office.wear(q, h)) {
                    alike++;
                }
            }
            return alike;
        }
    }

    /** Entries on how soft quills are. */
    private static final class Book {
        private static final int MOST = 15;
        int count = 0;
        private final int[] quill = new int[MOST];
        private final int[] softness = new int[MOST];

        void add(int q, int soft) {
            if (count >= MOST) {
                return;
            }
            quill[count] = q;
            softness[count] = soft;
            count++;
        }

        int firstWrong(Desk now) {
            for (int i = 0; i < count; i++) {
                if (now.softness[quill[i]] != softness[i]) {
                    return i;
                }
            }
            return NONE;
        }
    }
}
