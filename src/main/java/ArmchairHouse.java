import java.util.Arrays;
import java.util.NoSuchElementException;

/** The understudy audience: sitters in the theatre feel for the armchairs at home that hold their tickets. */
public final class ArmchairHouse {
    public static final int NONE = -1;
    public static final int HIDDEN = -1000000;

    private static final int MOST_CHAIRS = 6;
    private static final int MOST_SITTERS = 6;
    private static final int MOST_MINUTES = 9;
    private static final int MOST_TEXTS = 4;
    private static final int LAST_EVENING = 999;
    private static final int MOST_MOVED = 99;
    private static final int MOST_MONEY = 99;
    private static final int MOST_GIVEN = 50;
    private static final int MOST_HEART = 9;
    private static final int MOST_PRICE = 30;
    private static final int MOST_FLU = 9;
    private static final int MOST_YEARS = 30;
    private static final int MOST_SUM = 999;
    private static final int MOST_BORNE = 4;

    private final Tape tape = new Tape();
    private final Plan draft = new Plan();
    private final Plan plan = new Plan();
    private final LawReader lawReader = new LawReader(tape);
    private final Law[] laws = new Law[MOST_TEXTS];
    private int lawCount = 0;
    private int lawNow = NONE;
    private final Seasons seasons = new Seasons(tape);
    private int fluNow = 1;
    private long drawn = 0;
    private final Audience now = new Audience();
    private final Audience apart = new Audience();
    private final Stage stage = new Stage(plan, now);
    private final Past past = new Past();
    private final Seating seating = new Seating(plan, stage);
    private final Match match = new Match(plan, stage);
    private final Clues clues = new Clues(plan, stage, now);

    public ArmchairHouse() {
    }

    // ---- the TAPE and what is told by it

    public int feed(int a, int b, int c, int d, int e) {
        int more = Tape.signsIn(a) + Tape.signsIn(b) + Tape.signsIn(c) + Tape.signsIn(d) + Tape.signsIn(e);
        if (tape.length + more > Tape.SIZE) {
            return NONE;
        }
        tape.addFour(a);
        tape.addFour(b);
        tape.addFour(c);
        tape.addFour(d);
        tape.addFour(e);
        return tape.length;
    }

    public boolean end(int n) {
        if (n < 0 || n > tape.length) {
            return false;
        }
        tape.length = n;
        return true;
    }

    public int fault(int sort) {
        switch (sort) {
            case 0:
                return draft.read(tape);
            case 1:
                return lawReader.read();
            case 2:
                return seasons.read();
            default:
                return -2;
        }
    }

    public int text(int sort) {
        switch (sort) {
            case 0:
                return takeHouse();
            case 1:
                return takeLaw();
            case 2:
                return takeSeason();
            default:
                return NONE;
        }
    }

    private int takeHouse() {
        if (draft.read(tape) != NONE) {
            return NONE;
        }
        plan.copyFrom(draft);
        now.enter(plan);
        past.forget();
        clues.facts = 0;
        tape.length = 0;
        return plan.many(Plan.CHAIR);
    }

    private int takeLaw() {
        if (lawCount >= laws.length || lawReader.read() != NONE) {
            return NONE;
        }
        laws[lawCount] = lawReader.written();
        lawCount++;
        tape.length = 0;
        return lawCount - 1;
    }

    private int takeSeason() {
        if (seasons.count >= MOST_TEXTS || seasons.read() != NONE) {
            return NONE;
        }
        seasons.count++;
        tape.length = 0;
        return seasons.count - 1;
    }

    // ---- what is told, and how it is now

    public int rule(int what) {
        if (!plan.isTold()) {
            return NONE;
        }
        if (what == 0) {
            return plan.leads();
        }
        return what == 1 ? now.priceNow : NONE;
    }

    public int drama(int play, int what) {
        if (!plan.has(Plan.PLAY, play) || what < 0 || what > Plan.MINUTES) {
            return NONE;
        }
        return plan.value(Plan.PLAY, play, what);
    }

    public int chair(int chair, int what) throws NoSuchElementException {
        if (!plan.has(Plan.CHAIR, chair) || what < 0 || what > 3) {
            throw new NoSuchElementException("no such chair, or nothing such of it");
        }
        switch (what) {
            case 0:
                return now.hearts[chair];
            case 1:
                return now.seats[chair];
            case 2:
                return now.money[chair];
            default:
                return now.tears[chair];
        }
    }

    public int sitter(int sitter, int what) {
        if (!plan.has(Plan.SITTER, sitter) || what < 0 || what > 1) {
            return NONE;
        }
        if (what == 0) {
            return plan.dullness(sitter);
        }
        return now.isIll(sitter) ? 1 : 0;
    }

    public boolean law(int law) {
        if (law < NONE || law >= lawCount || law >= laws.length) {
            return false;
        }
        lawNow = law;
        stage.law = law < 0 ? null : laws[law];
        return true;
    }

    public boolean flu(int v) {
        if (v < 0 || v > MOST_FLU || v == fluNow) {
            return false;
        }
        fluNow = v;
        return true;
    }

    // ---- ACTS

    public int evening(int play) {
        if (!canShow(now, play)) {
            return NONE;
        }
        past.remember(now);
        int moved = stage.show(now, play);
        past.write(play, moved, stage.outBits());
        return moved;
    }

    public int change(int chair, int sitter) {
        if (!canChange(now, chair, sitter)) {
            return NONE;
        }
        past.remember(now);
        now.takeTicket(chair, sitter);
        return now.money[chair];
    }

    public boolean ill(int sitter) {
        if (!canFallIll(now, sitter)) {
            return false;
        }
        past.remember(now);
        now.fallIll(sitter);
        return true;
    }

    public int heart(int chair, int v) {
        if (!plan.has(Plan.CHAIR, chair) || v < 0 || v > MOST_HEART || now.hearts[chair] == v) {
            return NONE;
        }
        past.remember(now);
        int was = now.hearts[chair];
        now.hearts[chair] = v;
        return was;
    }

    public int give(int chair, int n) {
        if (!plan.has(Plan.CHAIR, chair) || n < 1 || n > MOST_GIVEN || now.money[chair] + n > MOST_MONEY) {
            return NONE;
        }
        past.remember(now);
        now.money[chair] += n;
        return now.money[chair];
    }

    public int price(int v) {
        if (!plan.isTold() || v < 0 || v > MOST_PRICE || v == now.priceNow) {
            return NONE;
        }
        past.remember(now);
        int was = now.priceNow;
        now.priceNow = v;
        return was;
    }

    public int years(int n, long seed) {
        if (!plan.isTold() || n < 1 || n > MOST_YEARS || now.eveningNow + n > LAST_EVENING) {
            return NONE;
        }
        drawn = seed;
        for (int i = 0; i < n; i++) {
            past.remember(now);
            drawWhatIsAhead();
            int play = draw(plan.many(Plan.PLAY));
            int moved = stage.show(now, play);
            past.write(play, moved, stage.outBits());
        }
        return now.eveningNow;
    }

    private void drawWhatIsAhead() {
        int sitters = plan.many(Plan.SITTER);
        if (draw(10) < fluNow) {
            now.fallIll(draw(sitters));
        }
        int chair = draw(plan.many(Plan.CHAIR));
        int sitter = draw(sitters);
        if (canChange(now, chair, sitter)) {
            now.takeTicket(chair, sitter);
        }
    }

    private int draw(int below) {
        drawn = drawn * 6364136223846793005L + 1442695040888963407L;
        return below > 0 ? (int) ((drawn >>> 33) % below) : 0;
    }

    private boolean canShow(Audience who, int play) {
        return plan.has(Plan.PLAY, play) && who.eveningNow < LAST_EVENING;
    }

    private boolean canChange(Audience who, int chair, int sitter) {
        return plan.has(Plan.CHAIR, chair) && plan.has(Plan.SITTER, sitter)
            && who.seats[chair] != sitter && who.money[chair] >= who.priceNow;
    }

    private boolean canFallIll(Audience who, int sitter) {
        return plan.has(Plan.SITTER, sitter) && !who.isIll(sitter);
    }

    public int undo() {
        return past.takeBack(now);
    }

    public int log(int i, int what) {
        if (i < 0 || i >= past.shown() || what < 0 || what > 2) {
            return NONE;
        }
        return past.line(i, what);
    }

    // ---- SEASONS

    public int step(int season, int i, int what) {
        if (i < 0 || i >= seasons.steps(season) || what < 0 || what >= Seasons.WIDTH) {
            return HIDDEN;
        }
        return seasons.part(season, i, what);
    }

    public int run(int season, int what) {
        if (seasons.steps(season) == 0 || !plan.isTold() || what < 0 || what > 1) {
            return HIDDEN;
        }
        apart.copyFrom(now);
        int moved = 0;
        for (int i = 0; i < seasons.steps(season); i++) {
            if (!canStep(season, i, apart)) {
                return what == 0 ? i : moved;
            }
            if (seasons.part(season, i, 0) == Seasons.SHOW) {
                moved += stage.show(apart, seasons.part(season, i, 1));
            } else {
                doQuietStep(season, i, apart);
            }
        }
        return what == 0 ? NONE : moved;
    }

    public int perform(int season) {
        if (seasons.steps(season) == 0 || !plan.isTold()) {
            return NONE;
        }
        for (int i = 0; i < seasons.steps(season); i++) {
            if (!canStep(season, i, now)) {
                return i;
            }
            past.remember(now);
            if (seasons.part(season, i, 0) == Seasons.SHOW) {
                int play = seasons.part(season, i, 1);
                int moved = stage.show(now, play);
                past.write(play, moved, stage.outBits());
            } else {
                doQuietStep(season, i, now);
            }
        }
        return seasons.steps(season);
    }

    private boolean canStep(int season, int i, Audience who) {
        int digit = seasons.part(season, i, 1);
        switch (seasons.part(season, i, 0)) {
            case Seasons.SHOW:
                return canShow(who, digit);
            case Seasons.CHANGE:
                return canChange(who, digit, seasons.part(season, i, 2));
            default:
                return canFallIll(who, digit);
        }
    }

    /** A STEP that can be and is no EVENING. */
    private void doQuietStep(int season, int i, Audience who) {
        int digit = seasons.part(season, i, 1);
        if (seasons.part(season, i, 0) == Seasons.CHANGE) {
            who.takeTicket(digit, seasons.part(season, i, 2));
        } else {
            who.fallIll(digit);
        }
    }

    // ---- what would be

    public int feels(int chair, int play, int what) {
        if (!plan.has(Plan.CHAIR, chair) || !plan.has(Plan.PLAY, play) || what < 0 || what > 1) {
            return HIDDEN;
        }
        stage.playAround(now, chair, play);
        return what == 0 ? stage.felt[chair] : stage.ledOut[chair];
    }

    public int first(int play) {
        if (!plan.has(Plan.PLAY, play)) {
            return NONE;
        }
        stage.playAll(now, play);
        return stage.firstOut();
    }

    public int tickets(int play, int w, int what) {
        if (!plan.has(Plan.PLAY, play) || w < 0 || w > MOST_MOVED || what < 0 || what > 1) {
            return NONE;
        }
        long best = seating.best(now, play, w);
        if (best >= Seating.IMPOSSIBLE) {
            return NONE;
        }
        return what == 0 ? Seating.costOf(best) : Seating.rowOf(best);
    }

    public int most(int play, int what) {
        if (!plan.has(Plan.PLAY, play) || what < 0 || what > 1) {
            return NONE;
        }
        long best = seating.best(now, play, NONE);
        return what == 0 ? Seating.rowOf(best) : -Seating.costOf(best);
    }

    public int howled(int chair, int play, int minute, int v, boolean is) {
        if (!plan.has(Plan.CHAIR, chair) || !plan.has(Plan.PLAY, play)
            || minute < 0 || minute >= MOST_MINUTES || v < 0 || v > MOST_MOVED) {
            return NONE;
        }
        return clues.keep(chair, play, minute, v, is);
    }

    public int whose(int chair) {
        return plan.has(Plan.CHAIR, chair) ? clues.suspects(chair) : NONE;
    }

    public int following(int chair, int v) {
        if (!plan.has(Plan.CHAIR, chair) || v < 0 || v > MOST_MOVED) {
            return NONE;
        }
        return clues.nextQuestion(chair, v);
    }

    public int halves(int play, int sum, int i) {
        if (!plan.has(Plan.PLAY, play) || sum < 0 || sum > MOST_SUM || i < NONE) {
            return NONE;
        }
        stage.playAll(now, play);
        int found = 0;
        for (int set = 0; set <= plan.everyChair(); set++) {
            if (sumOver(stage.felt, set) == sum) {
                if (found == i) {
                    return set;
                }
                found++;
            }
        }
        return i == NONE ? found : NONE;
    }

    private static int sumOver(int[] values, int set) {
        int sum = 0;
        for (int i = 0; i < values.length; i++) {
            if ((set >> i & 1) != 0) {
                sum += values[i];
            }
        }
        return sum;
    }

    private boolean canMatch(int one, int other, int play) {
        return plan.has(Plan.CHAIR, one) && plan.has(Plan.CHAIR, other) && one != other
            && plan.has(Plan.PLAY, play);
    }

    public int game(int one, int other, int play, int x, int y, int what) {
        if (!canMatch(one, other, play) || !plan.has(Plan.SITTER, x) || !plan.has(Plan.SITTER, y)
            || what < 0 || what > 1) {
            return HIDDEN;
        }
        match.prepare(now, one, other, play);
        return match.gain(what, x, y);
    }

    public int rests(int one, int other, int play, int i) {
        if (!canMatch(one, other, play) || i < NONE) {
            return NONE;
        }
        match.prepare(now, one, other, play);
        int sitters = plan.many(Plan.SITTER);
        int found = 0;
        for (int x = 0; x < sitters; x++) {
            for (int y = 0; y < sitters; y++) {
                if (match.isRest(x, y)) {
                    if (found == i) {
                        return 10 * x + y;
                    }
                    found++;
                }
            }
        }
        return i == NONE ? found : NONE;
    }

    public int borne(int n, int what) {
        if (!plan.isTold() || n < 1 || n > MOST_BORNE || what < 0 || what > 1) {
            return NONE;
        }
        apart.copyFrom(now);
        int row = 0;
        int moved = 0;
        // while nobody is LED OUT no HEART changes, so each EVENING's best PLAY can be chosen by itself
        for (int i = 0; i < n; i++) {
            int play = bestBorne();
            if (play == NONE) {
                return NONE;
            }
            moved += stage.show(apart, play);
            row = 10 * row + play;
        }
        return what == 0 ? row : moved;
    }

    private int bestBorne() {
        int best = NONE;
        int mostMoved = NONE;
        for (int play = 0; play < plan.many(Plan.PLAY); play++) {
            stage.playAll(apart, play);
            int moved = stage.allFelt();
            if (stage.outBits() == 0 && moved > mostMoved) {
                mostMoved = moved;
                best = play;
            }
        }
        return best;
    }

    public int meant(int play, int minute) {
        if (!plan.has(Plan.PLAY, play) || minute < 0 || minute >= plan.minutes(play)) {
            return NONE;
        }
        stage.playMinute(now, play, minute);
        int half = stage.allFelt() / 2;
        int best = plan.everyChair();
        for (int set = plan.everyChair(); set >= 0; set--) {
            if (sumOver(stage.felt, set) >= half && Integer.bitCount(set) <= Integer.bitCount(best)) {
                best = set;
            }
        }
        return best;
    }

    public int odds(int chair, int play, int chance) {
        if (!plan.has(Plan.CHAIR, chair) || !plan.has(Plan.PLAY, play) || chance < 0 || chance > 100) {
            return NONE;
        }
        stage.playAround(now, chair, play);
        return stage.felt[chair] > 0 && stage.ledOut[chair] == NONE ? 100 - chance : 0;
    }

    // ---- what stands out

    public int all(int what) {
        if (!plan.isTold()) {
            return NONE;
        }
        switch (what) {
            case 0:
                return greatest(now.hearts, plan.many(Plan.CHAIR));
            case 1:
                return greatest(now.money, plan.many(Plan.CHAIR));
            case 2:
                return greatest(now.tears, plan.many(Plan.CHAIR));
            case 3:
                return dullest();
            case 4:
                return sittersSold(0, 0);
            case 5:
                return longest();
            case 6:
                return chairsWithMoney();
            case 7:
                return sittersSold(2, MOST_CHAIRS);
            default:
                return NONE;
        }
    }

    private static int greatest(int[] values, int many) {
        int best = 0;
        for (int i = 1; i < many && i < values.length; i++) {
            if (values[i] > values[best]) {
                best = i;
            }
        }
        return best;
    }

    private int dullest() {
        int best = 0;
        for (int i = 1; i < plan.many(Plan.SITTER); i++) {
            if (plan.dullness(i) > plan.dullness(best)) {
                best = i;
            }
        }
        return best;
    }

    private int longest() {
        int best = 0;
        for (int i = 1; i < plan.many(Plan.PLAY); i++) {
            if (plan.allFeeling(i) > plan.allFeeling(best)) {
                best = i;
            }
        }
        return best;
    }

    /** SITTERS of whom that many CHAIRS have a TICKET, as bits. */
    private int sittersSold(int fewest, int greatest) {
        int bits = 0;
        for (int i = 0; i < plan.many(Plan.SITTER); i++) {
            int sold = Integer.bitCount(now.holders(i, plan.many(Plan.CHAIR)));
            if (sold >= fewest && sold <= greatest) {
                bits |= 1 << i;
            }
        }
        return bits;
    }

    private int chairsWithMoney() {
        int bits = 0;
        for (int i = 0; i < plan.many(Plan.CHAIR) && i < MOST_CHAIRS; i++) {
            if (now.money[i] >= now.priceNow) {
                bits |= 1 << i;
            }
        }
        return bits;
    }

    public int peak(int play, int what) {
        if (!plan.has(Plan.PLAY, play) || what < 0 || what > 1) {
            return NONE;
        }
        return what == 0 ? plan.strongestMinute(play) : plan.allFeeling(play);
    }

    public int house(int sitter) {
        return plan.has(Plan.SITTER, sitter) ? now.holders(sitter, plan.many(Plan.CHAIR)) : NONE;
    }

    public int hardens(int chair, int play) {
        if (!plan.has(Plan.CHAIR, chair) || !plan.has(Plan.PLAY, play)) {
            return NONE;
        }
        apart.copyFrom(now);
        for (int v = MOST_HEART; v >= 0; v--) {
            apart.hearts[chair] = v;
            stage.playAround(apart, chair, play);
            if (stage.ledOut[chair] == NONE) {
                return v;
            }
        }
        return NONE;
    }

    // ---- IMAGES and counts

    public int image() {
        if (!plan.isTold()) {
            return NONE;
        }
        past.keepImage(now);
        return now.eveningNow;
    }

    public int back() {
        return past.bringBack(now) ? now.eveningNow : NONE;
    }

    public int count(int what) {
        switch (what) {
            case 0:
                return plan.many(Plan.CHAIR);
            case 1:
                return plan.many(Plan.SITTER);
            case 2:
                return plan.many(Plan.PLAY);
            case 3:
                return lawCount;
            case 4:
                return seasons.count;
            case 5:
                return tape.length;
            case 6:
                return lawNow;
            default:
                return countOfNow(what);
        }
    }

    private int countOfNow(int what) {
        switch (what) {
            case 7:
                return now.eveningNow;
            case 8:
                return sumOver(now.tears, plan.everyChair());
            case 9:
                return now.illBits;
            case 10:
                return fluNow;
            case 11:
                return clues.facts;
            case 12:
                return past.shown();
            case 13:
                return past.actCount;
            default:
                return HIDDEN;
        }
    }

    /** The TAPE, and a finger on it with which a reader goes along. */
    private static final class Tape {
        static final int SIZE = 240;
        static final int END = -1;

        private final int[] bytes = new int[SIZE];
        int length = 0;
        int at = 0;

        static int signsIn(int four) {
            int signs = 0;
            for (int shift = 24; shift >= 0; shift -= 8) {
                if ((four >>> shift & 255) != 0) {
                    signs++;
                }
            }
            return signs;
        }

        void addFour(int four) {
            for (int shift = 24; shift >= 0; shift -= 8) {
                int sign = four >>> shift & 255;
                if (sign != 0 && length >= 0 && length < SIZE) {
                    bytes[length] = sign;
                    length++;
                }
            }
        }

        int sign() {
            return at >= 0 && at < length && at < SIZE ? bytes[at] : END;
        }

        /** The next sign that is no blank (END: none); the finger rests on it. */
        int ahead() {
            while (at < length && sign() == ' ') {
                at++;
            }
            return sign();
        }

        /** Where the sign stands in a row of signs; NONE: nowhere. */
        static int place(int sign, String signs) {
            return sign == END ? NONE : signs.indexOf((char) sign);
        }

        static boolean isDigit(int sign) {
            return sign >= '0' && sign <= '9';
        }

        /** NONE: no number, or one with too many digits; the finger is on the wrong sign then. */
        int number(int mostDigits) {
            ahead();
            int value = 0;
            int digits = 0;
            while (digits < mostDigits && isDigit(sign())) {
                value = 10 * value + sign() - '0';
                digits++;
                at++;
            }
            return digits == 0 || isDigit(sign()) ? NONE : value;
        }

        /** NONE: no digit; the finger is on the wrong sign then. */
        int digit() {
            int sign = ahead();
            if (!isDigit(sign)) {
                return NONE;
            }
            at++;
            return sign - '0';
        }
    }

    /** What a HOUSE tells: CLAUSES of four kinds, each a row of four numbers. */
    private static final class Plan {
        static final int RULES = 0;
        static final int PLAY = 1;
        static final int CHAIR = 2;
        static final int SITTER = 3;
        /** Which number of a PLAY tells how many MINUTES it has. */
        static final int MINUTES = 3;
        private static final int ITEMS = 4;
        private static final int ROWS = 17;

        private static final String KINDS = "spct";
        /** By fours for each kind; a blank can't be met where a letter is due. */
        private static final String LETTERS = "lp  abcmhtm d   ";
        private static final int[] LOWEST = {1, 0, 0, 0, 0, 0, 0, 1, 0, 0, 0, 0, 0, 0, 0, 0};
        private static final int[] HIGHEST = {99, 30, 0, 0, 9, 9, 9, 9, 9, 5, 99, 0, 9, 0, 0, 0};
        private static final int[] UNTOLD = {12, 5, 0, 0, 3, 3, 3, 3, 5, 0, 20, 0, 2, 0, 0, 0};
        private static final int[] MOST = {1, 4, 6, 6};
        private static final int[] FIRST_ROW = {0, 1, 5, 11};

        private final int[] values = new int[ROWS * ITEMS];
        private final int[] counts = new int[4];

        /** The FAULT of the TAPE as a HOUSE; NONE: this is that HOUSE now. */
        int read(Tape tape) {
            Arrays.fill(counts, 0);
            fillUntold(RULES, 0);
            tape.at = 0;
            for (int i = 0; i <= Tape.SIZE; i++) {
                int wrong = readClause(tape);
                if (wrong != NONE) {
                    return wrong;
                }
                if (tape.ahead() == Tape.END) {
                    return isWhole() ? NONE : tape.length;
                }
                tape.at++;
            }
            return tape.length;
        }

        /** A CLAUSE up to its end or the ; behind it. */
        private int readClause(Tape tape) {
            int kind = Tape.place(tape.ahead(), KINDS);
            if (!openClause(kind)) {
                return tape.at;
            }
            tape.at++;
            int told = 0;
            for (int i = 0; i <= ITEMS; i++) {
                int sign = tape.ahead();
                if (sign == Tape.END || sign == ';') {
                    return NONE;
                }
                int item = itemOf(kind, sign);
                if (item == NONE || (told >> item & 1) != 0) {
                    return tape.at;
                }
                told |= 1 << item;
                tape.at++;
                int wrong = readItem(tape, kind, item);
                if (wrong != NONE) {
                    return wrong;
                }
            }
            return tape.at;
        }

        private int readItem(Tape tape, int kind, int item) {
            int value = tape.number(2);
            if (value == NONE) {
                return tape.at;
            }
            if (!fits(kind, item, value)) {
                return tape.at - 1;
            }
            int at = slot(kind, many(kind) - 1, item);
            if (at != NONE) {
                values[at] = value;
            }
            return NONE;
        }

        private static boolean isKind(int kind) {
            return kind >= 0 && kind < MOST.length;
        }

        private static int itemOf(int kind, int sign) {
            for (int item = 0; isKind(kind) && item < ITEMS; item++) {
                if (LETTERS.charAt(kind * ITEMS + item) == sign) {
                    return item;
                }
            }
            return NONE;
        }

        private static boolean fits(int kind, int item, int value) {
            return isKind(kind) && item >= 0 && item < ITEMS
                && value >= LOWEST[kind * ITEMS + item] && value <= HIGHEST[kind * ITEMS + item];
        }

        /** False: no such kind, or there may be no more of it. */
        private boolean openClause(int kind) {
            if (!isKind(kind) || counts[kind] >= MOST[kind]) {
                return false;
            }
            fillUntold(kind, counts[kind]);
            counts[kind]++;
            return true;
        }

        private void fillUntold(int kind, int index) {
            for (int item = 0; item < ITEMS; item++) {
                int at = slot(kind, index, item);
                if (at != NONE) {
                    values[at] = UNTOLD[kind * ITEMS + item];
                }
            }
        }

        private static int slot(int kind, int index, int item) {
            if (kind < 0 || kind >= MOST.length || index < 0 || index >= MOST[kind] || item < 0 || item >= ITEMS) {
                return NONE;
            }
            return (FIRST_ROW[kind] + index) * ITEMS + item;
        }

        private boolean isWhole() {
            if (many(PLAY) == 0 || many(CHAIR) == 0 || many(SITTER) == 0) {
                return false;
            }
            for (int i = 0; i < many(CHAIR); i++) {
                if (value(CHAIR, i, 1) >= many(SITTER)) {
                    return false;
                }
            }
            return true;
        }

        void copyFrom(Plan other) {
            System.arraycopy(other.values, 0, values, 0, values.length);
            System.arraycopy(other.counts, 0, counts, 0, counts.length);
        }

        int value(int kind, int index, int item) {
            int at = slot(kind, index, item);
            return at == NONE ? 0 : values[at];
        }

        int many(int kind) {
            return isKind(kind) ? counts[kind] : 0;
        }

        boolean has(int kind, int index) {
            return index >= 0 && index < many(kind);
        }

        boolean isTold() {
            return many(CHAIR) > 0;
        }

        /** All CHAIRS, as bits. */
        int everyChair() {
            return (1 << many(CHAIR)) - 1;
        }

        int leads() {
            return value(RULES, 0, 0);
        }

        int dullness(int sitter) {
            return value(SITTER, sitter, 0);
        }

        int minutes(int play) {
            return value(PLAY, play, MINUTES);
        }

        private int feeling(int play, int minute) {
            return value(PLAY, play, minute % 3);
        }

        int allFeeling(int play) {
            int sum = 0;
            for (int k = 0; k < minutes(play); k++) {
                sum += feeling(play, k);
            }
            return sum;
        }

        int strongestMinute(int play) {
            int best = 0;
            for (int k = 1; k < minutes(play); k++) {
                if (feeling(play, k) > feeling(play, best)) {
                    best = k;
                }
            }
            return best;
        }
    }

    /** A LAW as a row of codes, each sign behind what it joins. */
    private static final class Law {
        /** Below this a code is a number, from it on a letter. */
        static final int LETTER = 10000;
        static final int SIGN = 20000;
        /** From this on a code tells where to go on if the CONDITION does not hold. */
        static final int SKIP = 30000;
        static final String LETTERS = "fhdnke";
        private static final int BOUND = 1000000;

        private final int[] code;
        private final int[] stack = new int[48];

        Law(int[] code) {
            this.code = code;
        }

        int worth(int[] letters) {
            int depth = 0;
            for (int i = 0; i < code.length; i++) {
                int next = code[i];
                if (next < SIGN) {
                    int letter = next - LETTER;
                    if (depth < stack.length && letter < letters.length) {
                        stack[depth] = letter < 0 ? next : letters[letter];
                        depth++;
                    }
                } else if (depth < 1) {
                    return 0;
                } else if (next == SIGN + ';') {
                    return stack[depth - 1];
                } else if (next == SIGN + '!') {
                    stack[depth - 1] = 1 - stack[depth - 1];
                } else if (next >= SKIP) {
                    depth--;
                    if (stack[depth] == 0 && next - SKIP > i) {
                        i = next - SKIP - 1;
                    }
                } else if (depth >= 2) {
                    depth--;
                    stack[depth - 1] = apply(next - SIGN, stack[depth - 1], stack[depth]);
                }
            }
            return 0;
        }

        private static int apply(int sign, int left, int right) {
            switch (sign) {
                case '/':
                    return right == 0 ? 0 : left / right;
                case '=':
                    return left == right ? 1 : 0;
                case '<':
                    return left < right ? 1 : 0;
                case '>':
                    return left > right ? 1 : 0;
                case '&':
                    return left & right;
                case '|':
                    return left | right;
                default:
                    break;
            }
            long sum = sign == '-' ? (long) left - right : (long) left + right;
            long result = sign == '*' ? (long) left * right : sum;
            if (result > BOUND) {
                return BOUND;
            }
            return result < -BOUND ? -BOUND : (int) result;
        }
    }

    /** Reads the TAPE as a LAW: a sign waits until one comes that binds no stronger, or one that closes. */
    private static final class LawReader {
        private static final int MOST_WITHIN = 6;
        /** Which SUM of a CLAUSE is read: the first, one left or right of a = < >, the last, none (behind a ). */
        private static final int EITHER = 0;
        private static final int LEFT = 1;
        private static final int RIGHT = 2;
        private static final int LAST = 3;
        private static final int CLOSED = 4;

        private final Tape tape;
        private final int[] code = new int[Tape.SIZE + 1];
        private int size = 0;
        private final int[] waiting = new int[64];
        private int waits = 0;
        private int side = EITHER;
        private int within = 0;
        private int brackets = 0;
        private int rounds = 0;
        private int skipAt = NONE;
        private boolean wantsAtom = true;
        private boolean unitMayBegin = true;

        LawReader(Tape tape) {
            this.tape = tape;
        }

        /** The FAULT; NONE: the code is that LAW. */
        int read() {
            tape.at = 0;
            size = 0;
            for (int i = 0; i <= Tape.SIZE; i++) {
                if (!readHead() || !readBody()) {
                    return tape.at;
                }
                if (tape.sign() == Tape.END) {
                    return NONE;
                }
                tape.at++;
            }
            return tape.length;
        }

        Law written() {
            return new Law(Arrays.copyOf(code, Math.max(0, size)));
        }

        private boolean readHead() {
            if (tape.ahead() != 'y') {
                return false;
            }
            tape.at++;
            if (tape.ahead() != ':') {
                return false;
            }
            tape.at++;
            waits = 0;
            side = EITHER;
            within = 0;
            brackets = 0;
            rounds = 0;
            skipAt = NONE;
            wantsAtom = true;
            unitMayBegin = true;
            return true;
        }

        /** What stands behind the : up to the CLAUSE's end or the ; behind it. */
        private boolean readBody() {
            for (int i = 0; i <= Tape.SIZE; i++) {
                int sign = tape.ahead();
                if (!wantsAtom && (sign == Tape.END || sign == ';')) {
                    return closeClause();
                }
                boolean fits = wantsAtom ? takeAtom(sign) : takeSign(sign);
                if (!fits) {
                    return false;
                }
            }
            return false;
        }

        /** An ATOM, or one of ( [ ! ahead of it. */
        private boolean takeAtom(int sign) {
            if (Tape.isDigit(sign)) {
                int value = tape.number(4);
                emit(value);
                wantsAtom = false;
                return value != NONE;
            }
            int letter = Tape.place(sign, Law.LETTERS);
            if (letter != NONE) {
                emit(Law.LETTER + letter);
                wantsAtom = false;
                tape.at++;
                return true;
            }
            boolean opens = sign == '[' || unitMayBegin && (sign == '!' || sign == '(');
            return opens && within < MOST_WITHIN && open(sign);
        }

        private boolean open(int sign) {
            hold(sign);
            within++;
            if (sign == '[') {
                brackets++;
                unitMayBegin = false;
            } else {
                side = LEFT;
                rounds += sign == '(' ? 1 : 0;
            }
            tape.at++;
            return true;
        }

        private boolean takeSign(int sign) {
            boolean unitIsWhole = brackets == 0 && (side == RIGHT || side == CLOSED);
            switch (sign) {
                case '+':
                case '-':
                case '*':
                case '/':
                    return side != CLOSED && join(sign, side, false);
                case ']':
                    return brackets > 0 && closeBracket();
                case '=':
                case '<':
                case '>':
                    return brackets == 0 && (side == EITHER || side == LEFT) && join(sign, RIGHT, false);
                case '&':
                case '|':
                    return unitIsWhole && join(sign, LEFT, true);
                case ')':
                    return unitIsWhole && rounds > 0 && closeRound();
                case '?':
                    return unitIsWhole && rounds == 0 && closeCondition();
                default:
                    return false;
            }
        }

        private boolean join(int sign, int nextSide, boolean beginsUnit) {
            settle(strength(sign));
            hold(sign);
            side = nextSide;
            wantsAtom = true;
            unitMayBegin = beginsUnit;
            tape.at++;
            return true;
        }

        private boolean closeBracket() {
            settle(1);
            waits--;
            within--;
            brackets--;
            tape.at++;
            return true;
        }

        private boolean closeRound() {
            settle(1);
            waits--;
            within--;
            rounds--;
            side = CLOSED;
            tape.at++;
            return true;
        }

        private boolean closeCondition() {
            settle(1);
            skipAt = size;
            emit(Law.SKIP);
            side = LAST;
            wantsAtom = true;
            unitMayBegin = false;
            tape.at++;
            return true;
        }

        private boolean closeClause() {
            if (brackets > 0 || side != EITHER && side != LAST) {
                return false;
            }
            settle(1);
            emit(Law.SIGN + ';');
            if (skipAt >= 0 && skipAt < code.length) {
                code[skipAt] = Law.SKIP + size;
            }
            return true;
        }

        /** Writes the waiting signs that bind at least so strongly, up to an open ( or [. */
        private void settle(int least) {
            while (waits > 0 && waits <= waiting.length && strength(waiting[waits - 1]) >= least) {
                waits--;
                emit(Law.SIGN + waiting[waits]);
                within -= waiting[waits] == '!' ? 1 : 0;
            }
        }

        private void hold(int sign) {
            if (waits >= 0 && waits < waiting.length) {
                waiting[waits] = sign;
                waits++;
            }
        }

        private void emit(int next) {
            if (size >= 0 && size < code.length) {
                code[size] = next;
                size++;
            }
        }

        private static int strength(int sign) {
            switch (sign) {
                case '|':
                    return 1;
                case '&':
                    return 2;
                case '!':
                    return 3;
                case '=':
                case '<':
                case '>':
                    return 4;
                case '+':
                case '-':
                    return 5;
                case '*':
                case '/':
                    return 6;
                default:
                    return 0;
            }
        }
    }

    /** The SEASONS, STEP by STEP what it is and its digits; behind those that are kept the one that is read. */
    private static final class Seasons {
        static final int WIDTH = 3;
        static final int SHOW = 0;
        static final int CHANGE = 1;
        private static final int MOST_STEPS = 16;
        private static final int ROOM = MOST_STEPS * WIDTH;
        private static final String KINDS = "exi";

        private final Tape tape;
        private final int[] parts = new int[(MOST_TEXTS + 1) * ROOM];
        private final int[] sizes = new int[MOST_TEXTS + 1];
        int count = 0;

        Seasons(Tape tape) {
            this.tape = tape;
        }

        /** The FAULT; NONE: the one behind those that are kept is that SEASON. */
        int read() {
            tape.at = 0;
            for (int i = 0; i < MOST_STEPS; i++) {
                if (!readStep(count * ROOM + i * WIDTH)) {
                    return tape.at;
                }
                int sign = tape.ahead();
                if (sign == Tape.END && count >= 0 && count < sizes.length) {
                    sizes[count] = i + 1;
                    return NONE;
                }
                if (sign != ';' || i + 1 == MOST_STEPS) {
                    return tape.at;
                }
                tape.at++;
            }
            return tape.at;
        }

        private boolean readStep(int to) {
            int kind = Tape.place(tape.ahead(), KINDS);
            if (kind == NONE || to < 0 || to > parts.length - WIDTH) {
                return false;
            }
            tape.at++;
            parts[to] = kind;
            parts[to + 1] = tape.digit();
            parts[to + 2] = NONE;
            if (parts[to + 1] == NONE || kind != CHANGE) {
                return parts[to + 1] != NONE;
            }
            parts[to + 2] = tape.digit();
            return parts[to + 2] != NONE;
        }

        /** How many STEPS it has; 0: there is no such SEASON. */
        int steps(int season) {
            return season >= 0 && season < count && season < sizes.length ? sizes[season] : 0;
        }

        int part(int season, int i, int what) {
            int at = season * ROOM + i * WIDTH + what;
            return at >= 0 && at < parts.length ? parts[at] : NONE;
        }
    }

    /** How CHAIRS and SITTERS are at one time. */
    private static final class Audience {
        static final int SIZE = 4 * MOST_CHAIRS + 3;
        private static final int MOST_TEARS = 9999;

        final int[] hearts = new int[MOST_CHAIRS];
        final int[] seats = new int[MOST_CHAIRS];
        final int[] money = new int[MOST_CHAIRS];
        final int[] tears = new int[MOST_CHAIRS];
        int illBits = 0;
        int priceNow = 0;
        int eveningNow = 0;

        void enter(Plan plan) {
            for (int i = 0; i < MOST_CHAIRS; i++) {
                hearts[i] = plan.value(Plan.CHAIR, i, 0);
                seats[i] = plan.value(Plan.CHAIR, i, 1);
                money[i] = plan.value(Plan.CHAIR, i, 2);
                tears[i] = 0;
            }
            illBits = 0;
            priceNow = plan.value(Plan.RULES, 0, 1);
            eveningNow = 0;
        }

        void copyFrom(Audience other) {
            System.arraycopy(other.hearts, 0, hearts, 0, MOST_CHAIRS);
            System.arraycopy(other.seats, 0, seats, 0, MOST_CHAIRS);
            System.arraycopy(other.money, 0, money, 0, MOST_CHAIRS);
            System.arraycopy(other.tears, 0, tears, 0, MOST_CHAIRS);
            illBits = other.illBits;
            priceNow = other.priceNow;
            eveningNow = other.eveningNow;
        }

        void saveTo(int[] rows, int from) {
            if (from < 0 || from > rows.length - SIZE) {
                return;
            }
            System.arraycopy(hearts, 0, rows, from, MOST_CHAIRS);
            System.arraycopy(seats, 0, rows, from + MOST_CHAIRS, MOST_CHAIRS);
            System.arraycopy(money, 0, rows, from + 2 * MOST_CHAIRS, MOST_CHAIRS);
            System.arraycopy(tears, 0, rows, from + 3 * MOST_CHAIRS, MOST_CHAIRS);
            rows[from + SIZE - 3] = illBits;
            rows[from + SIZE - 2] = priceNow;
            rows[from + SIZE - 1] = eveningNow;
        }

        void loadFrom(int[] rows, int from) {
            if (from < 0 || from > rows.length - SIZE) {
                return;
            }
            System.arraycopy(rows, from, hearts, 0, MOST_CHAIRS);
            System.arraycopy(rows, from + MOST_CHAIRS, seats, 0, MOST_CHAIRS);
            System.arraycopy(rows, from + 2 * MOST_CHAIRS, money, 0, MOST_CHAIRS);
            System.arraycopy(rows, from + 3 * MOST_CHAIRS, tears, 0, MOST_CHAIRS);
            illBits = rows[from + SIZE - 3];
            priceNow = rows[from + SIZE - 2];
            eveningNow = rows[from + SIZE - 1];
        }

        static boolean isChair(int chair) {
            return chair >= 0 && chair < MOST_CHAIRS;
        }

        boolean isIll(int sitter) {
            return sitter >= 0 && sitter < MOST_SITTERS && (illBits >> sitter & 1) != 0;
        }

        void fallIll(int sitter) {
            if (sitter >= 0 && sitter < MOST_SITTERS) {
                illBits |= 1 << sitter;
            }
        }

        void takeTicket(int chair, int sitter) {
            if (isChair(chair)) {
                money[chair] -= priceNow;
                seats[chair] = sitter;
            }
        }

        /** Of the first so many CHAIRS those with a TICKET of the SITTER, as bits. */
        int holders(int sitter, int chairs) {
            int bits = 0;
            for (int i = 0; i < chairs && i < MOST_CHAIRS; i++) {
                if (seats[i] == sitter) {
                    bits |= 1 << i;
                }
            }
            return bits;
        }

        void weep(int chair, int more) {
            if (isChair(chair)) {
                tears[chair] = Math.min(MOST_TEARS, tears[chair] + more);
            }
        }

        void harden(int chair) {
            if (isChair(chair)) {
                hearts[chair] = Math.max(0, hearts[chair] - 1);
            }
        }
    }

    /**
     * Plays PLAYS. CHAIRS matter to one another only if they share a SITTER, so each SITTER's
     * CHAIRS are played by themselves, and what was reckoned for one SITTER is kept in a table.
     */
    private static final class Stage {
        private static final int UNKNOWN = -1;

        private final Plan plan;
        /** The LAW that holds; null: none. */
        Law law = null;
        private final int[] letters = new int[6];
        private final int[] table = new int[MOST_CHAIRS * MOST_CHAIRS * MOST_MINUTES];
        /** For the CHAIRS that were played last: how much they FEEL, and in which MINUTE they are LED OUT. */
        final int[] felt = new int[MOST_CHAIRS];
        final int[] ledOut = new int[MOST_CHAIRS];
        private Audience who;
        private int play = 0;
        private int sitter = 0;

        Stage(Plan plan, Audience who) {
            this.plan = plan;
            this.who = who;
        }

        /** MOVED by a SITTER that is well, if that many CHAIRS share it. */
        int reckon(Audience whose, int chair, int bySitter, int inPlay, int minute, int sharers, int evening) {
            if (!Audience.isChair(chair) || sharers <= 0) {
                return 0;
            }
            letters[0] = plan.value(Plan.PLAY, inPlay, minute % 3);
            letters[1] = whose.hearts[chair];
            letters[2] = plan.value(Plan.SITTER, bySitter, 0);
            letters[3] = sharers;
            letters[4] = minute;
            letters[5] = evening;
            int worth = law == null ? letters[0] + letters[1] - letters[2] : law.worth(letters);
            return Math.max(0, Math.min(MOST_MOVED, worth)) / sharers;
        }

        void openSitter(Audience whose, int inPlay, int bySitter) {
            who = whose;
            play = inPlay;
            sitter = bySitter;
            Arrays.fill(table, UNKNOWN);
        }

        private int movedByTable(int chair, int minute, int sharers) {
            int at = (chair * MOST_CHAIRS + sharers - 1) * MOST_MINUTES + minute;
            if (who.isIll(sitter) || at < 0 || at >= table.length) {
                return 0;
            }
            if (table[at] == UNKNOWN) {
                table[at] = reckon(who, chair, sitter, play, minute, sharers, who.eveningNow);
            }
            return table[at];
        }

        /** Plays for these CHAIRS, as if they and no others had a TICKET of the opened SITTER. */
        void playGroup(int chairs) {
            clearFelt(chairs);
            int leads = plan.leads();
            int minutes = plan.minutes(play);
            int still = chairs;
            for (int minute = 0; minute < minutes && still != 0; minute++) {
                int begun = still;
                int sharers = Integer.bitCount(begun);
                for (int i = 0; i < MOST_CHAIRS; i++) {
                    if ((begun >> i & 1) != 0) {
                        int moved = movedByTable(i, minute, sharers);
                        felt[i] += moved;
                        if (moved >= leads) {
                            ledOut[i] = minute;
                            still &= ~(1 << i);
                        }
                    }
                }
            }
        }

        private void clearFelt(int chairs) {
            for (int i = 0; i < MOST_CHAIRS; i++) {
                if ((chairs >> i & 1) != 0) {
                    felt[i] = 0;
                    ledOut[i] = NONE;
                }
            }
        }

        void playAll(Audience whose, int inPlay) {
            for (int i = 0; i < plan.many(Plan.SITTER); i++) {
                openSitter(whose, inPlay, i);
                playGroup(whose.holders(i, plan.many(Plan.CHAIR)));
            }
        }

        /** Plays for the CHAIR and those with whom it shares its SITTER. */
        void playAround(Audience whose, int chair, int inPlay) {
            if (Audience.isChair(chair)) {
                int its = whose.seats[chair];
                openSitter(whose, inPlay, its);
                playGroup(whose.holders(its, plan.many(Plan.CHAIR)));
            }
        }

        /** How much all CHAIRS feel in one MINUTE, none of them OUT. */
        void playMinute(Audience whose, int inPlay, int minute) {
            int chairs = plan.many(Plan.CHAIR);
            for (int i = 0; i < chairs && i < MOST_CHAIRS; i++) {
                int its = whose.seats[i];
                int sharers = Integer.bitCount(whose.holders(its, chairs));
                int moved = reckon(whose, i, its, inPlay, minute, sharers, whose.eveningNow);
                felt[i] = whose.isIll(its) ? 0 : moved;
            }
        }

        /** An EVENING; how much all were MOVED. */
        int show(Audience whose, int inPlay) {
            playAll(whose, inPlay);
            for (int i = 0; i < plan.many(Plan.CHAIR) && i < MOST_CHAIRS; i++) {
                whose.weep(i, felt[i]);
                if (ledOut[i] != NONE) {
                    whose.harden(i);
                }
            }
            whose.illBits = 0;
            whose.eveningNow++;
            return allFelt();
        }

        int allFelt() {
            return sumOver(felt, plan.everyChair());
        }

        int outBits() {
            int bits = 0;
            for (int i = 0; i < plan.many(Plan.CHAIR) && i < MOST_CHAIRS; i++) {
                if (ledOut[i] != NONE) {
                    bits |= 1 << i;
                }
            }
            return bits;
        }

        int firstOut() {
            int earliest = NONE;
            for (int i = 0; i < plan.many(Plan.CHAIR) && i < MOST_CHAIRS; i++) {
                if (ledOut[i] != NONE && (earliest == NONE || ledOut[i] < ledOut[earliest])) {
                    earliest = i;
                }
            }
            return earliest;
        }
    }

    /** The LOG, the ACTS that can be UNDONE, and the IMAGE. */
    private static final class Past {
        private static final int SHOWN = 60;
        /** More than are shown, since an UNDONE EVENING brings an older line to light; a power of two. */
        private static final int LINES = 128;
        private static final int ACTS = 40;
        private static final int ACT_SIZE = Audience.SIZE + 1;

        private final int[] lines = new int[LINES];
        private int written = 0;
        private final int[] acts = new int[ACTS * ACT_SIZE];
        int actCount = 0;
        private int actNext = 0;
        private final int[] imageRow = new int[Audience.SIZE];
        private final int[] imageLines = new int[SHOWN];
        private int imageShown = 0;
        private boolean hasImage = false;

        void forget() {
            written = 0;
            actCount = 0;
            hasImage = false;
        }

        int shown() {
            return Math.min(SHOWN, written);
        }

        void write(int play, int moved, int out) {
            lines[written & LINES - 1] = moved << 8 | out << 2 | play;
            written++;
        }

        int line(int i, int what) {
            int packed = lines[written - 1 - i & LINES - 1];
            switch (what) {
                case 0:
                    return packed & 3;
                case 1:
                    return packed >> 8;
                default:
                    return packed >> 2 & 63;
            }
        }

        /** Keeps how it is ahead of an ACT. */
        void remember(Audience who) {
            int from = actNext * ACT_SIZE;
            if (from < 0 || from > acts.length - ACT_SIZE) {
                return;
            }
            who.saveTo(acts, from);
            acts[from + Audience.SIZE] = written;
            actNext = (actNext + 1) % ACTS;
            actCount = Math.min(ACTS, actCount + 1);
        }

        /** How many ACTS still can be UNDONE; NONE: none could. */
        int takeBack(Audience who) {
            int latest = (actNext + ACTS - 1) % ACTS;
            int from = latest * ACT_SIZE;
            if (actCount <= 0 || from < 0 || from > acts.length - ACT_SIZE) {
                return NONE;
            }
            who.loadFrom(acts, from);
            written = acts[from + Audience.SIZE];
            actNext = latest;
            actCount--;
            return actCount;
        }

        void keepImage(Audience who) {
            who.saveTo(imageRow, 0);
            imageShown = shown();
            for (int i = 0; i < imageShown && i < SHOWN; i++) {
                imageLines[i] = lines[written - imageShown + i & LINES - 1];
            }
            hasImage = true;
        }

        /** False: there is no IMAGE. */
        boolean bringBack(Audience who) {
            if (!hasImage) {
                return false;
            }
            who.loadFrom(imageRow, 0);
            System.arraycopy(imageLines, 0, lines, 0, SHOWN);
            written = imageShown;
            actCount = 0;
            return true;
        }
    }

    /** Searches rows of TICKETS SITTER by SITTER: the best row of a set of CHAIRS from those of smaller sets. */
    private static final class Seating {
        static final long IMPOSSIBLE = 1L << 60;
        private static final int SETS = 1 << MOST_CHAIRS;
        /** One of cost; above every row, so that of several equal costs the least row wins. */
        private static final long UNIT = 1000000;

        private final Plan plan;
        private final Stage stage;
        private final long[] taken = new long[SETS];
        private final long[] bests = new long[SETS];

        Seating(Plan plan, Stage stage) {
            this.plan = plan;
            this.stage = stage;
        }

        static int costOf(long best) {
            return (int) Math.floorDiv(best, UNIT);
        }

        static int rowOf(long best) {
            return (int) Math.floorMod(best, UNIT);
        }

        /** Cost and row of TICKETS for w, or of MOST (w NONE; its cost is how much all are MOVED, below 0). */
        long best(Audience who, int play, int w) {
            int every = Math.min(plan.everyChair(), SETS - 1);
            Arrays.fill(bests, IMPOSSIBLE);
            bests[0] = 0;
            for (int sitter = 0; sitter < plan.many(Plan.SITTER); sitter++) {
                stage.openSitter(who, play, sitter);
                for (int set = 1; set <= every; set++) {
                    stage.playGroup(set);
                    long cost = w == NONE ? -UNIT * sumOver(stage.felt, set) : changes(who, sitter, set, w);
                    taken[set] = cost + rowPart(sitter, set);
                }
                addSitter(every);
            }
            return every > 0 ? bests[every] : IMPOSSIBLE;
        }

        /** Larger sets go first, so that those they are made from are still without this SITTER. */
        private void addSitter(int every) {
            for (int set = every; set > 0 && set < SETS; set--) {
                for (int part = set; part > 0; part = part - 1 & set) {
                    bests[set] = Math.min(bests[set], bests[set ^ part] + taken[part]);
                }
            }
        }

        private long changes(Audience who, int sitter, int set, int w) {
            long cost = 0;
            for (int i = 0; i < MOST_CHAIRS; i++) {
                if ((set >> i & 1) != 0) {
                    if (stage.felt[i] < w || stage.ledOut[i] != NONE) {
                        return IMPOSSIBLE;
                    }
                    cost += who.seats[i] == sitter ? 0 : UNIT;
                }
            }
            return cost;
        }

        private long rowPart(int sitter, int set) {
            long row = 0;
            for (int i = 0; i < plan.many(Plan.CHAIR); i++) {
                row = 10 * row + ((set >> i & 1) != 0 ? sitter : 0);
            }
            return row;
        }
    }

    /** The GAME of two CHAIRS: what each has hangs on its SITTER and on whether the other takes the same one. */
    private static final class Match {
        private final Plan plan;
        private final Stage stage;
        /** For each SITTER: what the first has without and with the other, then the second. */
        private final int[] gains = new int[4 * MOST_SITTERS];

        Match(Plan plan, Stage stage) {
            this.plan = plan;
            this.stage = stage;
        }

        void prepare(Audience who, int one, int other, int play) {
            int both = 1 << one | 1 << other;
            for (int sitter = 0; sitter < plan.many(Plan.SITTER) && sitter < MOST_SITTERS; sitter++) {
                int others = who.holders(sitter, plan.many(Plan.CHAIR)) & ~both;
                stage.openSitter(who, play, sitter);
                stage.playGroup(others | 1 << one);
                gains[4 * sitter] = has(who, one, sitter);
                stage.playGroup(others | 1 << other);
                gains[4 * sitter + 2] = has(who, other, sitter);
                stage.playGroup(others | both);
                gains[4 * sitter + 1] = has(who, one, sitter);
                gains[4 * sitter + 3] = has(who, other, sitter);
            }
        }

        private int has(Audience who, int chair, int sitter) {
            if (!Audience.isChair(chair)) {
                return 0;
            }
            int feeling = stage.ledOut[chair] == NONE ? stage.felt[chair] : 0;
            return who.seats[chair] == sitter ? feeling : feeling - who.priceNow;
        }

        /** What the first (0) or the second (1) has, if they take x and y. */
        int gain(int which, int x, int y) {
            int at = 4 * (which == 0 ? x : y) + 2 * which + (x == y ? 1 : 0);
            return at >= 0 && at < gains.length ? gains[at] : 0;
        }

        boolean isRest(int x, int y) {
            for (int other = 0; other < plan.many(Plan.SITTER); other++) {
                if (gain(0, other, y) > gain(0, x, y) || gain(1, x, other) > gain(1, x, y)) {
                    return false;
                }
            }
            return true;
        }
    }

    /** What was HOWLED, and by whose TICKET it could have been. */
    private static final class Clues {
        private static final int MOST_FACTS = 10;
        private static final int WIDTH = 5;

        private final Plan plan;
        private final Stage stage;
        private final Audience now;
        private final int[] rows = new int[MOST_FACTS * WIDTH];
        int facts = 0;

        Clues(Plan plan, Stage stage, Audience now) {
            this.plan = plan;
            this.stage = stage;
            this.now = now;
        }

        /** How many there are then; NONE: there were as many as may be. */
        int keep(int chair, int play, int minute, int v, boolean is) {
            int at = facts * WIDTH;
            if (at < 0 || at > rows.length - WIDTH) {
                return NONE;
            }
            rows[at] = chair;
            rows[at + 1] = play;
            rows[at + 2] = minute;
            rows[at + 3] = v;
            rows[at + 4] = is ? 1 : 0;
            facts++;
            return facts;
        }

        /** Whether the CHAIR with a TICKET of the SITTER would be MOVED v or more, as HOWLED supposes it. */
        private boolean wouldHowl(int chair, int sitter, int play, int minute, int v) {
            if (minute >= plan.minutes(play)) {
                return v <= 0;
            }
            int others = now.holders(sitter, plan.many(Plan.CHAIR)) & ~(1 << chair);
            return stage.reckon(now, chair, sitter, play, minute, Integer.bitCount(others) + 1, 0) >= v;
        }

        private boolean fits(int chair, int sitter) {
            for (int at = 0; at < facts * WIDTH && at <= rows.length - WIDTH; at += WIDTH) {
                if (rows[at] == chair) {
                    boolean howls = wouldHowl(chair, sitter, rows[at + 1], rows[at + 2], rows[at + 3]);
                    if (howls != (rows[at + 4] == 1)) {
                        return false;
                    }
                }
            }
            return true;
        }

        /** WHOSE, as bits. */
        int suspects(int chair) {
            int bits = 0;
            for (int i = 0; i < plan.many(Plan.SITTER); i++) {
                if (fits(chair, i)) {
                    bits |= 1 << i;
                }
            }
            return bits;
        }

        /** NEXT; NONE: nobody fits. */
        int nextQuestion(int chair, int v) {
            int among = suspects(chair);
            int best = NONE;
            int least = MOST_SITTERS + 1;
            for (int play = 0; among != 0 && play < plan.many(Plan.PLAY); play++) {
                for (int minute = 0; minute < plan.minutes(play); minute++) {
                    int gap = gapBy(chair, among, play, minute, v);
                    if (gap < least) {
                        least = gap;
                        best = 10 * play + minute;
                    }
                }
            }
            return best;
        }

        private int gapBy(int chair, int among, int play, int minute, int v) {
            int gap = 0;
            for (int i = 0; i < MOST_SITTERS; i++) {
                if ((among >> i & 1) != 0) {
                    gap += wouldHowl(chair, i, play, minute, v) ? 1 : -1;
                }
            }
            return Math.abs(gap);
        }
    }
}
