import java.util.ArrayList;
import java.util.Arrays;
import java.util.List;
import java.util.function.Supplier;
import java.util.function.ToIntFunction;

/** The boundary sentences of Promises 1 to 43: what there is not, what is out of bounds, and that it changes nothing. */
public final class RefusalEdgesTest {
    private static final int NONE = Sheet.NONE;
    private static final int HIDDEN = Sheet.HIDDEN;
    private static final Sheet SHEET = new Sheet();
    // of Sheet.rich()
    private static final int CHAIRS = 3;
    private static final int SITTERS = 4;
    private static final int PLAYS = 2;

    /** A call of which one number is tried. */
    private interface Ask {
        int ask(ArmchairHouse x, int v);
    }

    public static void main(String[] args) {
        newObject();
        tapeIsFed();
        tapeIsFull();
        tapeEnds();
        faults();
        readAgain();
        texts();
        anotherHouse();
        rules();
        chairsAndSitters();
        lawsAndFlu();
        evenings();
        changes();
        illAndHearts();
        moneyAndPrice();
        years();
        undone();
        logs();
        steps();
        seasonsRun();
        feels();
        ticketsAndMost();
        howled();
        halves();
        games();
        borneAndMeant();
        odds();
        whatStandsOut();
        imagesAndBack();
        counts();
        theWholeLife();
        SHEET.finish(1, 43);
    }

    // ---- how it is asked

    private static ArmchairHouse empty() {
        return new ArmchairHouse();
    }

    /** All that can be without a HOUSE. */
    private static ArmchairHouse houseless() {
        ArmchairHouse x = new ArmchairHouse();
        Sheet.tell(x, 1, "y:7");
        Sheet.tell(x, 1, "y:8");
        x.law(1);
        Sheet.tell(x, 2, "e0;x01;i0");
        x.flu(4);
        Sheet.put(x, "e0");
        return x;
    }

    /** Each kind as many as may be. */
    private static ArmchairHouse full() {
        ArmchairHouse x = SHEET.at("sl99;p;p;p;p;c;ct1;ct2;ct3;ct4;ct5;t;t;t;t;t;t");
        for (int i = 0; i < 4; i++) {
            Sheet.tell(x, 1, "y:" + i);
            Sheet.tell(x, 2, "e" + i);
        }
        x.law(3);
        return x;
    }

    /** More CHAIRS than SITTERS and PLAYS. */
    private static ArmchairHouse crowd() {
        return SHEET.at("p;c;c;c;c;c;c;t");
    }

    private static ArmchairHouse late() {
        ArmchairHouse x = SHEET.by("sl99;pm1;p;c;t", "y:e/100");
        Sheet.tell(x, 2, "e0;e1");
        x.flu(0);
        Sheet.pass(x, 999);
        return x;
    }

    private static int bit(boolean b) {
        return b ? 1 : 0;
    }

    private static void no(String call, int want, ToIntFunction<ArmchairHouse> ask) {
        SHEET.refused(SHEET::rich, call, ask, want);
    }

    /** Refused by these numbers, on an object that was made so. */
    private static void each(Supplier<ArmchairHouse> make, String call, int want, int[] numbers, Ask ask) {
        for (int v : numbers) {
            SHEET.refused(make, call + " by " + v, x -> ask.ask(x, v), want);
        }
    }

    /** The first number beyond 0 .. many - 1, FAR ones beyond it, and these. */
    private static int[] above(int many, int... these) {
        int[] all = Arrays.copyOf(these, these.length + 1 + Sheet.FAR.length);
        int next = these.length;
        all[next++] = many;
        for (int far : Sheet.FAR) {
            if (far < 0 || far > many) {
                all[next++] = far;
            }
        }
        return Arrays.copyOf(all, next);
    }

    /** As above, and -1. */
    private static int[] beyond(int many, int... these) {
        int[] all = Arrays.copyOf(these, these.length + 1);
        all[these.length] = -1;
        return above(many, all);
    }

    /** Refused by each number that is none of 0 .. many - 1; by those it is not. */
    private static void outside(String call, int many, int want, Ask ask) {
        each(SHEET::rich, call, want, beyond(many), ask);
        for (int v : new int[] {0, many - 1}) {
            SHEET.due(call + " by " + v + " is not refused", ask.ask(SHEET.rich(), v) != want, true);
        }
    }

    /** As outside, but -1 (NONE) asks something else. */
    private static void outsideButNone(String call, int many, int want, Ask ask) {
        each(SHEET::rich, call, want, above(many), ask);
        for (int v : new int[] {NONE, 0, many - 1}) {
            SHEET.due(call + " by " + v + " is not refused", ask.ask(SHEET.rich(), v) != want, true);
        }
    }

    private static void withoutHouse(String call, int want, ToIntFunction<ArmchairHouse> ask) {
        SHEET.refused(RefusalEdgesTest::empty, call + " of a new object", ask, want);
        SHEET.refused(RefusalEdgesTest::houseless, call + " without a house", ask, want);
    }

    // ---- Promise 1

    private static void newObject() {
        SHEET.says("No HOUSE.", 1, 43);
        int[] counts = {0, 0, 0, 0, 0, 0, NONE, 0, 0, 0, 1, 0, 0, 0};
        for (int i = 0; i < counts.length; i++) {
            SHEET.due("count(" + i + ")", empty().count(i), counts[i]);
        }
        SHEET.says("The constants: `NONE = -1`: None; refused. `HIDDEN = -1000000`: Not told.", 1);
        SHEET.due("NONE", ArmchairHouse.NONE, -1);
        SHEET.due("HIDDEN", ArmchairHouse.HIDDEN, -1000000);
        SHEET.says("What is refused answers as told and changes nothing.", 6, 7, 8, 9, 12, 13, 14, 15, 16, 17, 18, 19, 20, 22,
            23, 24, 25, 26, 27, 28, 29, 30, 31, 32, 33, 34, 35, 36, 37, 38, 39, 40, 41, 42);
        withoutHouse("rule(0)", NONE, x -> x.rule(0));
        withoutHouse("rule(1)", NONE, x -> x.rule(1));
        withoutHouse("drama", NONE, x -> x.drama(0, 0));
        withoutHouse("chair", Sheet.THROWN, x -> Sheet.chair(x, 0, 0));
        withoutHouse("sitter", NONE, x -> x.sitter(0, 0));
        withoutHouse("evening", NONE, x -> x.evening(0));
        withoutHouse("change", NONE, x -> x.change(0, 1));
        withoutHouse("ill", 0, x -> bit(x.ill(0)));
        withoutHouse("heart", NONE, x -> x.heart(0, 1));
        withoutHouse("give", NONE, x -> x.give(0, 1));
        withoutHouse("price", NONE, x -> x.price(1));
        withoutHouse("price(0)", NONE, x -> x.price(0));
        withoutHouse("years", NONE, x -> x.years(1, 1));
        withoutHouse("undo", NONE, x -> x.undo());
        withoutHouse("log", NONE, x -> x.log(0, 0));
        withoutHouse("run(0, 0)", HIDDEN, x -> x.run(0, 0));
        withoutHouse("run(0, 1)", HIDDEN, x -> x.run(0, 1));
        withoutHouse("perform", NONE, x -> x.perform(0));
        withoutHouse("feels", HIDDEN, x -> x.feels(0, 0, 0));
        withoutHouse("first", NONE, x -> x.first(0));
        withoutHouse("tickets", NONE, x -> x.tickets(0, 0, 0));
        withoutHouse("most", NONE, x -> x.most(0, 0));
        withoutHouse("howled", NONE, x -> x.howled(0, 0, 0, 0, true));
        withoutHouse("whose", NONE, x -> x.whose(0));
        withoutHouse("following", NONE, x -> x.following(0, 0));
        withoutHouse("halves", NONE, x -> x.halves(0, 0, -1));
        withoutHouse("game", HIDDEN, x -> x.game(0, 1, 0, 0, 0, 0));
        withoutHouse("rests", NONE, x -> x.rests(0, 1, 0, -1));
        withoutHouse("borne(1, 0)", NONE, x -> x.borne(1, 0));
        withoutHouse("borne(1, 1)", NONE, x -> x.borne(1, 1));
        withoutHouse("meant", NONE, x -> x.meant(0, 0));
        withoutHouse("odds", NONE, x -> x.odds(0, 0, 0));
        withoutHouse("peak", NONE, x -> x.peak(0, 0));
        withoutHouse("house", NONE, x -> x.house(0));
        withoutHouse("hardens", NONE, x -> x.hardens(0, 0));
        withoutHouse("image", NONE, x -> x.image());
        withoutHouse("back", NONE, x -> x.back());
        for (int what = 0; what < 8; what++) {
            int of = what;
            withoutHouse("all(" + what + ")", NONE, x -> x.all(of));
        }
    }

    // ---- Promises 2 to 5: the TAPE

    private static int feed(ArmchairHouse x, int[] bytes) {
        int[] five = new int[5];
        for (int i = 0; i < 20; i++) {
            five[i / 4] |= bytes[i] << 24 - 8 * (i % 4);
        }
        return x.feed(five[0], five[1], five[2], five[3], five[4]);
    }

    private static void tapeIsFed() {
        SHEET.says("Twenty bytes more come to the TAPE (of each number the highest first; bytes of 0 are left out): "
            + "how many it has.", 2, 43);
        for (int place = 0; place < 20; place++) {
            for (int value : new int[] {1, 127, 128, 255}) {
                int[] bytes = new int[20];
                bytes[place] = value;
                ArmchairHouse x = new ArmchairHouse();
                SHEET.due("byte " + value + " at place " + place, feed(x, bytes), 1);
                SHEET.due("the tape", x.count(5), 1);
            }
        }
        SHEET.due("none", new ArmchairHouse().feed(0, 0, 0, 0, 0), 0);
        // twenty bytes in their order: the steps tell it; then with 0 between them, by each row of five
        ArmchairHouse x = new ArmchairHouse();
        SHEET.due("twenty", x.feed(0x65303B65, 0x313B6532, 0x3B65333B, 0x65343B65, 0x353B6536), 20);
        SHEET.due("a season", x.text(2), 0);
        for (int i = 0; i < 7; i++) {
            SHEET.due("its step " + i, x.step(0, i, 1), i);
        }
        for (int mask = 0; mask < 1 << 20; mask += 37) {
            if (Integer.bitCount(mask) == 5) {
                int[] bytes = new int[20];
                int next = 0;
                for (int i = 0; i < 20; i++) {
                    if ((mask >> i & 1) != 0) {
                        bytes[i] = "x46;9".charAt(next);
                        next++;
                    }
                }
                placed(bytes);
            }
        }
        x = new ArmchairHouse();
        for (int i = 1; i <= 24; i++) {
            int length = x.feed(0x01000100, 0x00010001, 0x01010000, 0x00000101, 0x7F000080);
            SHEET.due("ten of twenty, " + i + " times", length, 10 * i);
        }
    }

    /** "x46;9": a STEP, and a FAULT at 4, wherever the bytes of 0 were. */
    private static void placed(int[] bytes) {
        ArmchairHouse x = new ArmchairHouse();
        SHEET.due("five bytes of " + Arrays.toString(bytes), feed(x, bytes), 5);
        SHEET.due("its fault", x.fault(2), 4);
        x.end(3);
        SHEET.due("its step", x.text(2), 0);
        SHEET.due("its digits", 10 * x.step(0, 0, 1) + x.step(0, 0, 2), 46);
    }

    private static ArmchairHouse tapeOf(int length) {
        ArmchairHouse x = SHEET.rich();
        x.end(0);
        StringBuilder text = new StringBuilder("e1");
        while (text.length() < length) {
            text.append(' ');
        }
        Sheet.put(x, text.toString());
        SHEET.due("a tape", x.count(5), length);
        return x;
    }

    private static void tapeIsFull() {
        SHEET.says("NONE: more than 240.", 2);
        int[][] masks = {{-1, -1, -1, -1, -1}, {1, 0, 0, 0, 0}, {0, 0, 0, 0, 1}, {1 << 24, 0, 0, 0, 0}, {0, 0, 0, 0, 1 << 24},
            {Integer.MIN_VALUE, 0, 0, 0, 0}};
        for (int[] m : masks) {
            int more = 0;
            for (int v : m) {
                for (int shift = 0; shift < 32; shift += 8) {
                    more += (v >>> shift & 255) != 0 ? 1 : 0;
                }
            }
            int most = 240 - more;
            SHEET.due(more + " more make 240", tapeOf(most).feed(m[0], m[1], m[2], m[3], m[4]), 240);
            for (int length : new int[] {most + 1, 240}) {
                SHEET.refused(() -> tapeOf(length), more + " more than " + length,
                    x -> x.feed(m[0], m[1], m[2], m[3], m[4]), NONE);
            }
        }
        SHEET.refused(() -> tapeOf(240), "nothing more than 240", x -> x.feed(0, 0, 0, 0, 0), 240);
        SHEET.refused(() -> tapeOf(221), "twenty more than 221", x -> x.feed(-1, -1, -1, -1, -1), NONE);
        ArmchairHouse x = tapeOf(221);
        SHEET.due("refused", x.feed(-1, -1, -1, -1, -1), NONE);
        SHEET.due("nineteen more", x.feed(-1, -1, -1, -1, -1 << 8), 240);
        SHEET.due("its end", x.end(221), true);
        SHEET.due("it is as it was", x.text(2), 3);
    }

    private static void tapeEnds() {
        SHEET.says("The TAPE has its first n bytes alone. False: n.", 3);
        for (int length : new int[] {2, 3, 239, 240}) {
            each(() -> tapeOf(length), "end", 0, beyond(length + 1, 241), (x, n) -> bit(x.end(n)));
            SHEET.refused(() -> tapeOf(length), "end of all", x -> bit(x.end(length)), 1);
        }
        SHEET.due("end(0) of none", new ArmchairHouse().end(0), true);
        SHEET.due("end(1) of none", new ArmchairHouse().end(1), false);
        SHEET.due("end(-1) of none", new ArmchairHouse().end(-1), false);
        String text = "x12;e3;i4";
        for (int n = 0; n <= text.length(); n++) {
            ArmchairHouse x = new ArmchairHouse();
            Sheet.put(x, text);
            SHEET.due("end(" + n + ")", x.end(n), true);
            SHEET.due("the tape", x.count(5), n);
            SHEET.due("no more of it", n < text.length() && x.end(n + 1), false);
            Sheet.put(x, text.substring(n));
            SHEET.due("the first bytes and others", x.text(2), 0);
            SHEET.due("its last step", x.step(0, 2, 1), 4);
        }
        ArmchairHouse x = new ArmchairHouse();
        Sheet.put(x, "e0;e1;e2");
        x.end(4);
        Sheet.put(x, "7");
        SHEET.due("what was behind is gone", x.fault(2), NONE);
        SHEET.due("its length", x.text(2), 0);
        SHEET.due("two steps", x.step(0, 2, 0), HIDDEN);
        SHEET.due("the second", x.step(0, 1, 1), 7);
    }

    private static ArmchairHouse telling(String text) {
        ArmchairHouse x = SHEET.rich();
        x.end(0);
        Sheet.put(x, text);
        return x;
    }

    private static final String[] WHOLE = {"pa9;c;t", "y:99", "e0;x11"};
    private static final String[] FAULTY = {"sl1p30;pa0m9;ch0m99;td9;q", "y:99;y:", "e1;e1;x1"};

    private static void faults() {
        SHEET.says("NONE: none. -2: no such sort.", 4);
        each(SHEET::rich, "fault", -2, beyond(3), (x, v) -> x.fault(v));
        each(RefusalEdgesTest::empty, "fault of a new object", -2, beyond(3), (x, v) -> x.fault(v));
        for (int sort = 0; sort < 3; sort++) {
            int of = sort;
            SHEET.due("no tape at all", new ArmchairHouse().fault(sort), 0);
            for (String text : WHOLE) {
                SHEET.refused(() -> telling(text), "fault(" + of + ") of " + text,
                    x -> x.fault(of), text.equals(WHOLE[of]) ? NONE : 0);
            }
            SHEET.refused(() -> telling(FAULTY[of]), "fault(" + of + ") of " + FAULTY[of], x -> x.fault(of),
                FAULTY[of].length() - (of == 0 ? 1 : 0));
        }
        SHEET.due("a fifth law has no fault", Sheet.put(full(), "y:1"), 3);
        ArmchairHouse x = full();
        Sheet.put(x, "y:1");
        SHEET.due("a fifth law has no fault", x.fault(1), NONE);
        x.end(0);
        Sheet.put(x, "e1;");
        SHEET.due("the fault of a fifth season", x.fault(2), 3);
    }

    /** What was read ahead, with a FAULT or without, does not matter. */
    private static void readAgain() {
        SHEET.says("The FAULT of the TAPE as a HOUSE (0), a LAW (1), a SEASON (2).", 4);
        String[][] texts = {
            {"p;c;t", "s;p;p;p;p;c;c;c;c;c;c;t;t;t;t;t;t;q", "sl1p1;pa0b0c0m1;ch0t0m0;td0;x", "p;c;t", "p;c;ct5;t"},
            {"y:1", "y:((((((1=1", "y:[[[[[[1", "y:!!!!!!1", "y:1=1|1=1&!1=2", "y:1=1?", "y:[1", "y:(1=1|(1=1&1=1",
                "y:1;y:f=2?3;y:", "y:!1", "y:1+"},
            {"e0", "e0;x01;i0;e", "x0", "e0;e0;e0;e0;e0;e0;e0;e0;e0;e0;e0;e0;e0;e0;e0;e0;", ""}};
        String[][] wholes = {{"p;c;t", "t;c;p;s", "p;c;c;c;c;c;c;t"},
            {"y:1", "y:((((((1=1))))))?1", "y:[[[[[[1]]]]]]", "y:!!!!!!1=1?1", "y:f", "y:(f=1|f=3)&f=3?7;y:2"},
            {"e0", "x01;i2", "i1;i1;i1"}};
        for (int sort = 0; sort < 3; sort++) {
            for (String ahead : texts[sort]) {
                for (String whole : wholes[sort]) {
                    readBehind(sort, ahead, whole, false);
                    readBehind(sort, ahead, whole, true);
                }
            }
        }
    }

    private static void readBehind(int sort, String ahead, String whole, boolean twice) {
        ArmchairHouse x = new ArmchairHouse();
        Sheet.put(x, ahead);
        int fault = x.fault(sort);
        SHEET.due("the fault of '" + ahead + "', again", twice ? x.fault(sort) : fault, fault);
        x.end(0);
        Sheet.put(x, whole);
        SHEET.due("behind '" + ahead + "' the fault of '" + whole + "'", twice ? x.fault(sort) : NONE, NONE);
        SHEET.due("behind '" + ahead + "' it is taken: '" + whole + "'", x.text(sort) >= 0, true);
        ArmchairHouse y = new ArmchairHouse();
        Sheet.tell(y, sort, whole);
        alike(ahead, whole, x, y);
    }

    private static void alike(String ahead, String whole, ArmchairHouse x, ArmchairHouse y) {
        String call = "behind '" + ahead + "', of '" + whole + "': ";
        if (x.count(0) == 0) {
            Sheet.tell(x, 0, "pm9;c;ct1;t;t;t");
            Sheet.tell(y, 0, "pm9;c;ct1;t;t;t");
        }
        x.law(0);
        y.law(0);
        for (int c = 0; c < y.count(0); c++) {
            SHEET.due(call + "feels", x.feels(c, 0, 0), y.feels(c, 0, 0));
            SHEET.due(call + "heart", Sheet.chair(x, c, 0), Sheet.chair(y, c, 0));
            SHEET.due(call + "ticket", Sheet.chair(x, c, 1), Sheet.chair(y, c, 1));
        }
        for (int i = 0; i < 17; i++) {
            for (int what = 0; what < 3; what++) {
                SHEET.due(call + "step", x.step(0, i, what), y.step(0, i, what));
            }
        }
        for (int i = 0; i < 5; i++) {
            SHEET.due(call + "count(" + i + ")", x.count(i), y.count(i));
        }
        SHEET.due(call + "rule(0)", x.rule(0), y.rule(0));
        SHEET.due(call + "drama(0, 0)", x.drama(0, 0), y.drama(0, 0));
    }

    private static void texts() {
        SHEET.says("NONE: a FAULT, no such sort, there are four.", 5);
        for (String text : WHOLE) {
            each(() -> telling(text), "text of " + text, NONE, beyond(3), (x, v) -> x.text(v));
        }
        for (int sort = 0; sort < 3; sort++) {
            int of = sort;
            for (String text : FAULTY) {
                SHEET.refused(() -> telling(text), "text(" + of + ") of " + text, x -> x.text(of), NONE);
            }
            for (int other = 0; other < 3; other++) {
                if (other != of) {
                    String text = WHOLE[other];
                    SHEET.refused(() -> telling(text), "text(" + of + ") of " + text, x -> x.text(of), NONE);
                }
            }
            SHEET.refused(RefusalEdgesTest::empty, "text(" + of + ") of nothing", x -> x.text(of), NONE);
        }
        int[] many = {1, 4, 4};
        for (int sort = 1; sort < 3; sort++) {
            int of = sort;
            SHEET.refused(() -> {
                ArmchairHouse x = full();
                Sheet.put(x, WHOLE[of]);
                return x;
            }, "a fifth of sort " + of, x -> x.text(of), NONE);
            ArmchairHouse x = full();
            SHEET.due("a fifth", Sheet.tell(x, of, WHOLE[of]), NONE);
            SHEET.due("a house still", Sheet.tell(x, 0, WHOLE[0]), many[0]);
            SHEET.due("no fifth with another house", Sheet.tell(x, of, WHOLE[of]), NONE);
            SHEET.due("four", x.count(of + 2), many[of]);
        }
        SHEET.says("a LAW, a SEASON: its number.", 5);
        ArmchairHouse x = new ArmchairHouse();
        for (int i = 0; i < 4; i++) {
            SHEET.due("a law", Sheet.tell(x, 1, "y:" + i), i);
            SHEET.due("no such law in between", Sheet.tell(x, 1, "y:"), NONE);
            SHEET.due("a season", Sheet.tell(x, 2, "e" + i), i);
            SHEET.due("no such season in between", Sheet.tell(x, 2, "e"), NONE);
        }
    }

    private static void anotherHouse() {
        SHEET.says("The TAPE (empty then) is the HOUSE (EVENING 0, nobody ILL; all that was of another one, HOWLED, too, is gone "
            + "but LAWS, which holds, SEASONS, FLU): how many CHAIRS", 5);
        for (String house : new String[] {"p;c;t", "sl10p4;pa9b0c4m5;pa1b2c3m1;ch6t0m10;ch3t0m3;ch9t1m50;td1;td4;td0;td2",
            "p;p;p;p;c;c;c;c;c;c;t;t;t;t;t;t"}) {
            ArmchairHouse x = SHEET.rich();
            ArmchairHouse y = new ArmchairHouse();
            int chairs = Sheet.tell(y, 0, house);
            SHEET.due("how many chairs", Sheet.tell(x, 0, house), chairs);
            int[] counts = {chairs, y.count(1), y.count(2), 2, 3, 0, 0, 0, 0, 0, 3, 0, 0, 0};
            for (int i = 0; i < counts.length; i++) {
                SHEET.due("count(" + i + ")", x.count(i), counts[i]);
            }
            SHEET.due("no image of it", x.back(), NONE);
            SHEET.due("no act of it", x.undo(), NONE);
            SHEET.due("no log of it", x.log(0, 0), NONE);
            for (int c = 0; c < chairs; c++) {
                SHEET.due("whose", x.whose(c), (1 << y.count(1)) - 1);
                for (int what = 0; what < 4; what++) {
                    SHEET.due("chair(" + c + "," + what + ")", Sheet.chair(x, c, what), Sheet.chair(y, c, what));
                }
            }
            for (int what = 0; what < 2; what++) {
                SHEET.due("rule(" + what + ")", x.rule(what), y.rule(what));
            }
            for (int p = 0; p < 5; p++) {
                for (int what = 0; what < 4; what++) {
                    SHEET.due("drama(" + p + "," + what + ")", x.drama(p, what), y.drama(p, what));
                }
            }
            for (int t = 0; t < 6; t++) {
                SHEET.due("sitter(" + t + ",0)", x.sitter(t, 0), y.sitter(t, 0));
                SHEET.due("sitter(" + t + ",1)", x.sitter(t, 1), y.sitter(t, 1));
            }
            SHEET.due("the first season", x.step(0, 1, 2), 2);
            Sheet.tell(y, 1, "y:f+h-d");
            y.law(0);
            SHEET.due("the law holds still", x.evening(0), y.evening(0));
        }
        ArmchairHouse x = SHEET.rich();
        SHEET.due("fewer chairs", Sheet.tell(x, 0, "p;c;t"), 1);
        SHEET.due("the second is gone", Sheet.chair(x, 1, 0), Sheet.THROWN);
        SHEET.due("the second play is gone", x.evening(1), NONE);
        SHEET.due("the second sitter is gone", x.ill(1), false);
        SHEET.due("tears of all", x.count(8), 0);
    }

    // ---- Promises 6 to 11

    private static void rules() {
        SHEET.says("NONE: no HOUSE, no such what.", 6, 37);
        outside("rule", 2, NONE, (x, v) -> x.rule(v));
        outside("all", 8, NONE, (x, v) -> x.all(v));
        SHEET.says("Of a PLAY: 0 .. 2 FEELING of its MINUTES, 3 how many MINUTES. NONE: no such ones.", 7);
        outside("drama of a play", PLAYS, NONE, (x, v) -> x.drama(v, 0));
        outside("drama of what", 4, NONE, (x, v) -> x.drama(1, v));
        each(RefusalEdgesTest::full, "drama of five", NONE, beyond(4), (x, v) -> x.drama(v, 3));
    }

    private static void chairsAndSitters() {
        SHEET.says("NoSuchElementException: no such ones.", 8);
        outside("chair", CHAIRS, Sheet.THROWN, (x, v) -> Sheet.chair(x, v, 0));
        outside("chair of what", 4, Sheet.THROWN, (x, v) -> Sheet.chair(x, 2, v));
        each(RefusalEdgesTest::full, "chair of six", Sheet.THROWN, beyond(6), (x, v) -> Sheet.chair(x, v, 3));
        SHEET.due("both wrong", Sheet.chair(SHEET.rich(), 3, 4), Sheet.THROWN);
        SHEET.says("Of a SITTER: 0 DULLNESS, 1 whether ILL (1, 0). NONE: no such ones.", 9);
        outside("sitter", SITTERS, NONE, (x, v) -> x.sitter(v, 0));
        outside("whether it is ill", SITTERS, NONE, (x, v) -> x.sitter(v, 1));
        outside("sitter of what", 2, NONE, (x, v) -> x.sitter(1, v));
        each(RefusalEdgesTest::crowd, "the one of a crowd", NONE, beyond(1, 5), (x, v) -> x.sitter(v, 0));
        for (int t = 0; t < SITTERS; t++) {
            SHEET.due("ill is sitter 1 alone, " + t, SHEET.rich().sitter(t, 1), t == 1 ? 1 : 0);
        }
        SHEET.says("HOUSE, as bits. NONE: no such SITTER.", 39);
        outside("house", SITTERS, NONE, (x, v) -> x.house(v));
        each(RefusalEdgesTest::crowd, "house in a crowd", NONE, beyond(1, 5), (x, v) -> x.house(v));
    }

    private static void lawsAndFlu() {
        SHEET.says("The LAW that holds (NONE: none). False: no such one.", 10, 43);
        outsideButNone("law", 2, 0, (x, v) -> bit(x.law(v)));
        each(RefusalEdgesTest::full, "law of four", 0, above(4), (x, v) -> bit(x.law(v)));
        each(RefusalEdgesTest::empty, "law of none", 0, above(0, 1, 3, 4), (x, v) -> bit(x.law(v)));
        ArmchairHouse x = full();
        for (int law : new int[] {0, 3, NONE, NONE, 3, 3}) {
            SHEET.due("law(" + law + ")", x.law(law), true);
            SHEET.due("it holds", x.count(6), law);
            SHEET.due("what is felt", x.feels(0, 0, 0), law == NONE ? 18 : 3 * law);
        }
        SHEET.due("no act", x.count(13), 0);
        SHEET.due("none of none", new ArmchairHouse().law(NONE), true);
        SHEET.says("FLU (0 .. 9). False: out of bounds, it is so.", 11, 43);
        each(SHEET::rich, "flu", 0, beyond(10, 3), (y, v) -> bit(y.flu(v)));
        each(RefusalEdgesTest::empty, "flu of a new object", 0, beyond(10, 1), (y, v) -> bit(y.flu(v)));
        for (int v : new int[] {0, 9, 8, 0}) {
            SHEET.due("flu(" + v + ")", x.flu(v), true);
            SHEET.due("it is", x.count(10), v);
            SHEET.due("it is so", x.flu(v), false);
        }
    }

    // ---- Promises 12 to 20: ACTS

    private static void evenings() {
        SHEET.says("NONE: no such PLAY, beyond 999.", 12);
        outside("evening", PLAYS, NONE, (x, v) -> x.evening(v));
        each(RefusalEdgesTest::crowd, "the one of a crowd", NONE, beyond(1, 4), (x, v) -> x.evening(v));
        each(RefusalEdgesTest::full, "a fifth", NONE, beyond(4), (x, v) -> x.evening(v));
        each(RefusalEdgesTest::late, "evening beyond 999", NONE, new int[] {0, 1, 2, -1}, (x, v) -> x.evening(v));
    }

    private static void changes() {
        SHEET.says("A CHAIR changes its TICKET: MONEY then. NONE: no such ones, it has that one, too little.", 13);
        // chair 0 has sitter 2 and 6 of money, chair 1 sitter 0 and 8, chair 2 sitter 1 and 50; the price is 3
        outside("change of a chair", CHAIRS, NONE, (x, v) -> x.change(v, 3));
        outside("change to a sitter", SITTERS, NONE, (x, v) -> x.change(2, v));
        each(RefusalEdgesTest::crowd, "change in a crowd", NONE, beyond(1, 0, 5), (x, v) -> x.change(5, v));
        no("it has that one", NONE, x -> x.change(0, 2));
        no("it has that one", NONE, x -> x.change(1, 0));
        no("it has that one", NONE, x -> x.change(2, 1));
        SHEET.refused(() -> SHEET.at("sp5;p;cm4;t;t"), "too little", x -> x.change(0, 1), NONE);
        SHEET.refused(() -> SHEET.at("sp30;p;cm29;t;t"), "too little", x -> x.change(0, 1), NONE);
        SHEET.refused(() -> SHEET.at("sp1;p;cm0;t;t"), "too little", x -> x.change(0, 1), NONE);
        SHEET.due("just enough", SHEET.at("sp30;p;cm30;t;t").change(0, 1), 0);
        SHEET.due("by the price now", SHEET.rich().change(0, 3), 3);
    }

    private static void illAndHearts() {
        SHEET.says("A SITTER falls ILL. False: no such one, it is.", 14);
        outside("ill", SITTERS, 0, (x, v) -> bit(x.ill(v)));
        each(RefusalEdgesTest::crowd, "ill in a crowd", 0, beyond(1, 5), (x, v) -> bit(x.ill(v)));
        no("it is ill", 0, x -> bit(x.ill(1)));
        SHEET.says("A HEART is set: what it was. NONE: no such CHAIR, out of bounds, it is so.", 15);
        outside("heart of a chair", CHAIRS, NONE, (x, v) -> x.heart(v, 5));
        outside("heart", 10, NONE, (x, v) -> x.heart(2, v));
        no("it is so", NONE, x -> x.heart(2, 4));
        no("it is so", NONE, x -> x.heart(1, 3));
        each(RefusalEdgesTest::full, "heart of six", NONE, beyond(6), (x, v) -> x.heart(v, 1));
        SHEET.due("it was", SHEET.rich().heart(2, 0), 4);
    }

    private static ArmchairHouse money(int money) {
        return SHEET.at("p;c;cm" + money + ";t");
    }

    private static void moneyAndPrice() {
        SHEET.says("MONEY is given: MONEY then. NONE: no such CHAIR, out of bounds, above 99.", 16);
        outside("give to a chair", CHAIRS, NONE, (x, v) -> x.give(v, 5));
        each(SHEET::rich, "give", NONE, beyond(51, 0), (x, v) -> x.give(0, v));
        each(RefusalEdgesTest::full, "give to six", NONE, beyond(6), (x, v) -> x.give(v, 1));
        for (int n : new int[] {1, 2, 49, 50}) {
            SHEET.due(n + " up to 99", money(99 - n).give(1, n), 99);
            SHEET.refused(() -> money(100 - n), n + " above 99", x -> x.give(1, n), NONE);
        }
        SHEET.refused(() -> money(99), "50 above 99", x -> x.give(1, 50), NONE);
        SHEET.says("PRICE is set: what it was. NONE: no HOUSE, out of bounds, it is so.", 17);
        each(SHEET::rich, "price", NONE, beyond(31, 3), (x, v) -> x.price(v));
        SHEET.due("0", SHEET.rich().price(0), 3);
        SHEET.due("30", SHEET.rich().price(30), 3);
    }

    private static void years() {
        SHEET.says("YEARS: the EVENING. NONE: no HOUSE, out of bounds, beyond 999.", 18);
        for (long seed : new long[] {0, Long.MIN_VALUE, Long.MAX_VALUE}) {
            each(SHEET::rich, "years", NONE, beyond(31, 0), (x, v) -> x.years(v, seed));
            each(RefusalEdgesTest::late, "years beyond 999", NONE, new int[] {0, 1, 2, 30, 31}, (x, v) -> x.years(v, seed));
            SHEET.due("1", SHEET.rich().years(1, seed), 3);
            SHEET.due("30", SHEET.rich().years(30, seed), 32);
        }
        for (int undone = 1; undone <= 31; undone += 6) {
            int left = undone;
            Supplier<ArmchairHouse> make = () -> {
                ArmchairHouse x = late();
                for (int i = 0; i < left; i++) {
                    x.undo();
                }
                return x;
            };
            if (undone < 30) {
                SHEET.refused(make, "one more than " + undone, x -> x.years(left + 1, 1), NONE);
                SHEET.refused(make, "thirty", x -> x.years(30, 1), NONE);
            }
            SHEET.due("just " + undone, make.get().years(Math.min(30, undone), 1), undone < 30 ? 999 : 968 + 30);
        }
    }

    private static void undone() {
        SHEET.says("The latest ACT is UNDONE: how many still can be. NONE: none.", 19, 43);
        ArmchairHouse x = SHEET.rich();
        for (int i = 6; i >= 0; i--) {
            SHEET.due("undo", x.undo(), i);
            SHEET.due("that can be", x.count(13), i);
        }
        Supplier<ArmchairHouse> make = () -> {
            ArmchairHouse y = SHEET.rich();
            for (int i = 0; i < 7; i++) {
                y.undo();
            }
            return y;
        };
        SHEET.refused(make, "an eighth", y -> y.undo(), NONE);
        SHEET.refused(RefusalEdgesTest::full, "undo of none", y -> y.undo(), NONE);
        SHEET.refused(() -> {
            ArmchairHouse y = SHEET.rich();
            y.back();
            return y;
        }, "undo behind back", y -> y.undo(), NONE);
    }

    private static void logs() {
        SHEET.says("LOG, the latest (i 0), the one ahead of it (1) ..: 0 PLAY, 1 MOVED, 2 OUT. NONE: no such ones.", 20, 43);
        outside("log", 2, NONE, (x, v) -> x.log(v, 1));
        outside("log of what", 3, NONE, (x, v) -> x.log(1, v));
        each(RefusalEdgesTest::late, "log of sixty", NONE, beyond(60), (x, v) -> x.log(v, 0));
        ArmchairHouse x = SHEET.rich();
        SHEET.due("the latest", x.log(0, 0), 0);
        SHEET.due("the one ahead of it", x.log(1, 0), 1);
        SHEET.due("sixty", late().count(12), 60);
        SHEET.due("the sixtieth", late().log(59, 1), 9);
    }

    // ---- Promises 21 to 23: SEASONS

    private static void steps() {
        SHEET.says("A STEP of a SEASON: 0 what (0 e, 1 x, 2 i), 1 its digit, 2 the second one (NONE). "
            + "HIDDEN: no such ones.", 21, 43);
        outside("step of a season", 3, HIDDEN, (x, v) -> x.step(v, 0, 0));
        outside("step", 3, HIDDEN, (x, v) -> x.step(0, v, 1));
        outside("step", 2, HIDDEN, (x, v) -> x.step(1, v, 1));
        outside("step", 1, HIDDEN, (x, v) -> x.step(2, v, 1));
        outside("step of what", 3, HIDDEN, (x, v) -> x.step(0, 1, v));
        each(RefusalEdgesTest::full, "step of four seasons", HIDDEN, beyond(4, 5), (x, v) -> x.step(v, 0, 0));
        each(RefusalEdgesTest::empty, "step of none", HIDDEN, beyond(0, 1), (x, v) -> x.step(v, 0, 0));
        int[][] due = {{0, 1, NONE}, {1, 0, 2}, {2, 2, NONE}};
        for (int i = 0; i < 3; i++) {
            for (int what = 0; what < 3; what++) {
                SHEET.due("step(0," + i + "," + what + ")", SHEET.rich().step(0, i, what), due[i][what]);
                SHEET.due("without a house", houseless().step(0, i, 0), i);
            }
        }
        ArmchairHouse x = SHEET.rich();
        Sheet.put(x, ";e1;x");
        SHEET.due("a fault", x.fault(2), 7);
        SHEET.due("what was read for a fault is no season", x.step(3, 0, 0), HIDDEN);
        SHEET.due("nor is it one with a fault", x.text(2), NONE);
        SHEET.due("none", x.step(3, 0, 0), HIDDEN);
        x.end(2);
        SHEET.due("no fault", x.fault(2), NONE);
        SHEET.due("none still", x.step(3, 0, 0), HIDDEN);
        SHEET.due("then it is", x.text(2), 3);
        SHEET.due("its step", x.step(3, 0, 1), 1);
    }

    private static void seasonsRun() {
        SHEET.says("RUN: behind how many (0; NONE: all can be), MOVED (1). HIDDEN: no such ones, no HOUSE.", 22);
        outside("run of a season", 3, HIDDEN, (x, v) -> x.run(v, 0));
        outside("run of what", 2, HIDDEN, (x, v) -> x.run(0, v));
        each(RefusalEdgesTest::full, "run of four seasons", HIDDEN, beyond(4, 5), (x, v) -> x.run(v, 1));
        SHEET.due("a step that can't be", SHEET.rich().run(0, 0), 1);
        SHEET.due("all can be", SHEET.rich().run(1, 0), NONE);
        SHEET.refused(RefusalEdgesTest::late, "run at 999", x -> x.run(0, 0), 0);
        SHEET.refused(RefusalEdgesTest::late, "moved at 999", x -> x.run(0, 1), 0);
        SHEET.says("DO: how many STEPS were done. NONE: no such SEASON, no HOUSE.", 23);
        outside("perform", 3, NONE, (x, v) -> x.perform(v));
        each(RefusalEdgesTest::full, "perform of four seasons", NONE, beyond(4, 5), (x, v) -> x.perform(v));
        SHEET.due("one of three", SHEET.rich().perform(0), 1);
        SHEET.due("two", SHEET.rich().perform(1), 2);
        SHEET.refused(RefusalEdgesTest::late, "perform at 999", x -> x.perform(0), 0);
        SHEET.refused(() -> {
            ArmchairHouse x = SHEET.rich();
            x.ill(3);
            return x;
        }, "the first step can't be", x -> x.perform(2), 0);
    }

    // ---- Promises 24 to 36: what would be

    private static void feels() {
        SHEET.says("FEELS: how much (0), the MINUTE in which it is LED OUT (1; NONE: it is not). HIDDEN: no such ones.", 24);
        outside("feels of a chair", CHAIRS, HIDDEN, (x, v) -> x.feels(v, 0, 0));
        outside("feels by a play", PLAYS, HIDDEN, (x, v) -> x.feels(0, v, 0));
        outside("feels of what", 2, HIDDEN, (x, v) -> x.feels(0, 0, v));
        each(RefusalEdgesTest::full, "feels of six", HIDDEN, beyond(6), (x, v) -> x.feels(v, 0, 1));
        each(RefusalEdgesTest::full, "feels by four", HIDDEN, beyond(4), (x, v) -> x.feels(0, v, 1));
        SHEET.says("FIRST. NONE: nobody, no such PLAY.", 25);
        Supplier<ArmchairHouse> out = () -> SHEET.at("sl1;p;p;c;t");
        each(out, "first", NONE, beyond(2), (x, v) -> x.first(v));
        SHEET.due("the first", out.get().first(0), 0);
        SHEET.due("the first by the last play", out.get().first(1), 0);
        SHEET.due("nobody", full().first(0), NONE);
    }

    private static void ticketsAndMost() {
        SHEET.says("TICKETS: how many (0), the row (1). NONE: there is none, no such PLAY, out of bounds, no such what.", 26);
        outside("tickets", PLAYS, NONE, (x, v) -> x.tickets(v, 0, 0));
        outside("tickets of what", 2, NONE, (x, v) -> x.tickets(1, 0, v));
        each(SHEET::rich, "tickets for w", NONE, beyond(100), (x, v) -> x.tickets(1, v, 0));
        each(RefusalEdgesTest::full, "tickets for w", NONE, beyond(100), (x, v) -> x.tickets(3, v, 1));
        for (int what = 0; what < 2; what++) {
            int of = what;
            SHEET.due("w 99", SHEET.by("sl99;pm9;c;t", "y:11").tickets(0, 99, what), 0);
            SHEET.refused(() -> SHEET.by("sl99;pm9;c;t", "y:10"), "there is none", x -> x.tickets(0, 99, of), NONE);
        }
        SHEET.says("MOST: the row (0), that (1). NONE: no such PLAY, no such what.", 27);
        outside("most", PLAYS, NONE, (x, v) -> x.most(v, 0));
        outside("most of what", 2, NONE, (x, v) -> x.most(1, v));
    }

    private static void howled() {
        SHEET.says("HOWLED: how many there are. NONE: no such ones, out of bounds, there are ten.", 28, 43);
        outside("howled of a chair", CHAIRS, NONE, (x, v) -> x.howled(v, 0, 0, 0, true));
        outside("howled by a play", PLAYS, NONE, (x, v) -> x.howled(0, v, 0, 0, true));
        outside("howled in a minute", 9, NONE, (x, v) -> x.howled(0, 0, v, 0, false));
        outside("howled v", 100, NONE, (x, v) -> x.howled(0, 0, 0, v, false));
        Supplier<ArmchairHouse> ten = () -> {
            ArmchairHouse x = SHEET.rich();
            for (int i = 2; i <= 10; i++) {
                SHEET.due("howled", x.howled(i % 3, i % 2, i % 9, i, i % 2 == 0), i);
            }
            return x;
        };
        for (int c = 0; c < CHAIRS; c++) {
            int chair = c;
            SHEET.refused(ten, "an eleventh", x -> x.howled(chair, 0, 0, 99, true), NONE);
            SHEET.refused(ten, "an eleventh", x -> x.howled(chair, 0, 0, 0, false), NONE);
        }
        SHEET.says("WHOSE, as bits. NONE: no such CHAIR.", 29);
        outside("whose", CHAIRS, NONE, (x, v) -> x.whose(v));
        each(RefusalEdgesTest::full, "whose of six", NONE, beyond(6), (x, v) -> x.whose(v));
        SHEET.says("NEXT. NONE: nobody fits, no such CHAIR, out of bounds.", 30);
        outside("following", CHAIRS, NONE, (x, v) -> x.following(v, 3));
        outside("following for v", 100, NONE, (x, v) -> x.following(1, v));
        SHEET.refused(() -> {
            ArmchairHouse x = SHEET.rich();
            x.howled(1, 0, 0, 99, true);
            return x;
        }, "nobody fits", x -> x.following(1, 3), NONE);
    }

    private static void halves() {
        SHEET.says("HALVES: how many (i NONE), the i-th. NONE: no such one, no such PLAY, out of bounds.", 31);
        outside("halves", PLAYS, NONE, (x, v) -> x.halves(v, 0, 0));
        each(SHEET::rich, "halves for a sum", NONE, beyond(1000), (x, v) -> x.halves(0, v, NONE));
        SHEET.due("sum 0", SHEET.rich().halves(0, 0, NONE) > 0, true);
        SHEET.due("sum 999", SHEET.rich().halves(0, 999, NONE), 0);
        ArmchairHouse x = SHEET.rich();
        int many = x.halves(1, 0, NONE);
        outsideButNone("halves, the i-th", many, NONE, (y, v) -> y.halves(1, 0, v));
    }

    private static void games() {
        SHEET.says("GAME: what the first has (0), the second (1). HIDDEN: no such ones, alike.", 32);
        each(SHEET::rich, "game of one", HIDDEN, beyond(CHAIRS), (x, v) -> x.game(v, 1, 0, 0, 0, 0));
        each(SHEET::rich, "game of the other", HIDDEN, beyond(CHAIRS), (x, v) -> x.game(0, v, 0, 0, 0, 0));
        each(SHEET::rich, "game alike", HIDDEN, new int[] {0, 1, 2}, (x, v) -> x.game(v, v, 0, 0, 1, 0));
        SHEET.due("the first and the last chair", SHEET.rich().game(0, 2, 0, 0, 0, 0) != HIDDEN, true);
        SHEET.due("the last and the first", SHEET.rich().game(2, 0, 0, 0, 0, 0) != HIDDEN, true);
        outside("game for a play", PLAYS, HIDDEN, (x, v) -> x.game(0, 1, v, 0, 0, 0));
        outside("game by x", SITTERS, HIDDEN, (x, v) -> x.game(0, 1, 0, v, 0, 0));
        outside("game by y", SITTERS, HIDDEN, (x, v) -> x.game(0, 1, 0, 0, v, 0));
        outside("game of what", 2, HIDDEN, (x, v) -> x.game(0, 1, 0, 0, 0, v));
        SHEET.says("RESTS: how many (i NONE), the i-th. NONE: no such one, no such CHAIRS, PLAY, alike.", 33);
        for (int i : new int[] {NONE, 0}) {
            each(SHEET::rich, "rests of one", NONE, beyond(CHAIRS), (x, v) -> x.rests(v, 1, 0, i));
            each(SHEET::rich, "rests of the other", NONE, beyond(CHAIRS), (x, v) -> x.rests(0, v, 0, i));
            each(SHEET::rich, "rests alike", NONE, new int[] {0, 1, 2}, (x, v) -> x.rests(v, v, 0, i));
            each(SHEET::rich, "rests for a play", NONE, beyond(PLAYS), (x, v) -> x.rests(0, 1, v, i));
        }
        int many = SHEET.rich().rests(0, 1, 0, NONE);
        SHEET.due("there are some", many > 0, true);
        outsideButNone("rests, the i-th", many, NONE, (x, v) -> x.rests(0, 1, 0, v));
    }

    private static void borneAndMeant() {
        SHEET.says("BORNE: the row (0), that (1). NONE: there is none, no HOUSE, out of bounds, no such what.", 34);
        each(SHEET::rich, "borne", NONE, beyond(5, 0), (x, v) -> x.borne(v, 0));
        outside("borne of what", 2, NONE, (x, v) -> x.borne(4, v));
        SHEET.due("1", SHEET.rich().borne(1, 0) != NONE, true);
        each(() -> SHEET.at("sl1;p;p;c;t"), "there is none", NONE, new int[] {1, 2, 3, 4}, (x, v) -> x.borne(v, 0));
        each(() -> SHEET.at("sl1;p;p;c;t"), "there is none", NONE, new int[] {1, 2, 3, 4}, (x, v) -> x.borne(v, 1));
        SHEET.says("MEANT, as bits. NONE: no such PLAY, no such MINUTE of it.", 35);
        outside("meant", PLAYS, NONE, (x, v) -> x.meant(v, 0));
        outside("meant in a minute of five", 5, NONE, (x, v) -> x.meant(0, v));
        outside("meant in the minute of one", 1, NONE, (x, v) -> x.meant(1, v));
    }

    private static void odds() {
        SHEET.says("ODDS. NONE: no such ones, out of bounds.", 36);
        outside("odds of a chair", CHAIRS, NONE, (x, v) -> x.odds(v, 0, 50));
        outside("odds by a play", PLAYS, NONE, (x, v) -> x.odds(0, v, 50));
        outside("odds by chance", 101, NONE, (x, v) -> x.odds(0, 0, v));
        SHEET.says("HARDENS. NONE: with none, no such ones.", 40);
        outside("hardens of a chair", CHAIRS, NONE, (x, v) -> x.hardens(v, 0));
        outside("hardens by a play", PLAYS, NONE, (x, v) -> x.hardens(0, v));
        SHEET.refused(() -> SHEET.at("sl1;p;c;t"), "with none", x -> x.hardens(0, 0), NONE);
    }

    // ---- Promises 37 to 43

    private static void whatStandsOut() {
        SHEET.says("PEAK (0), SUM (1). NONE: no such PLAY, no such what.", 38);
        outside("peak", PLAYS, NONE, (x, v) -> x.peak(v, 0));
        outside("sum", PLAYS, NONE, (x, v) -> x.peak(v, 1));
        outside("peak of what", 2, NONE, (x, v) -> x.peak(1, v));
        SHEET.says("0 CHAIRS, 1 SITTERS, 2 PLAYS, 3 LAWS, 4 SEASONS, 5 bytes of the TAPE, 6 the LAW that holds "
            + "(NONE), 7 the EVENING, 8 TEARS of all, 9 ILL ones (bits), 10 FLU, 11 HOWLED, 12 how long the LOG is, "
            + "13 ACTS that can be UNDONE.", 43);
        ArmchairHouse x = SHEET.rich();
        int tears = Sheet.chair(x, 0, 3) + Sheet.chair(x, 1, 3) + Sheet.chair(x, 2, 3);
        int[] due = {3, 4, 2, 2, 3, 2, 0, 2, tears, 2, 3, 1, 2, 7};
        for (int i = 0; i < due.length; i++) {
            SHEET.due("count(" + i + ")", x.count(i), due[i]);
        }
    }

    private static void imagesAndBack() {
        SHEET.says("An IMAGE (instead of the one ahead): the EVENING. NONE: no HOUSE.", 41);
        SHEET.due("an image", SHEET.rich().image(), 2);
        SHEET.due("at 999", late().image(), 999);
        ArmchairHouse x = SHEET.rich();
        x.image();
        SHEET.due("it is no act", x.count(13), 7);
        SHEET.due("the latest act is undone", x.undo(), 6);
        SHEET.due("the price", x.rule(1), 4);
        SHEET.says("BACK: the EVENING. NONE: no IMAGE of this HOUSE.", 42);
        SHEET.refused(RefusalEdgesTest::full, "no image", y -> y.back(), NONE);
        SHEET.refused(() -> {
            ArmchairHouse y = SHEET.rich();
            Sheet.tell(y, 0, "p;p;c;t");
            y.evening(1);
            return y;
        }, "an image of another house", y -> y.back(), NONE);
        SHEET.refused(() -> {
            ArmchairHouse y = SHEET.rich();
            Sheet.tell(y, 0, "sl10p4;pa9b0c4m5;pa1b2c3m1;ch6t0m10;ch3t0m3;ch9t1m50;td1;td4;td0;td2");
            return y;
        }, "an image of the same house told ahead", y -> y.back(), NONE);
        SHEET.due("back", SHEET.rich().back(), 1);
        x = late();
        x.image();
        Sheet.tell(x, 0, "p;c;t");
        SHEET.due("no image of it", x.back(), NONE);
        SHEET.due("an image of it", x.image(), 0);
        x.evening(0);
        SHEET.due("back to it", x.back(), 0);
    }

    private static void counts() {
        SHEET.says("HIDDEN for others.", 43);
        each(SHEET::rich, "count", HIDDEN, beyond(14, 15), (x, v) -> x.count(v));
        each(RefusalEdgesTest::empty, "count of a new object", HIDDEN, beyond(14, 15), (x, v) -> x.count(v));
    }

    /** Each of the face's calls, again and again, up to the last one that counts. */
    private static void theWholeLife() {
        SHEET.says("An object is used for at most 512 calls after it has been made", 12, 19, 43);
        ArmchairHouse x = new ArmchairHouse();
        List<Integer> prices = new ArrayList<>();
        int calls = 3;
        Sheet.put(x, "pm1;c;t");
        SHEET.due("a house", x.text(0), 1);
        while (calls < 470) {
            int price = calls % 31;
            prices.add(x.rule(1));
            SHEET.due("an act", x.price(price) != NONE || prices.get(prices.size() - 1) == price, true);
            calls += 2;
        }
        SHEET.due("acts", x.count(13), 40);
        for (int i = 39; i >= 0; i--) {
            SHEET.due("undo, call " + calls, x.undo(), i);
            calls++;
        }
        SHEET.due("the price forty acts ahead", x.rule(1), prices.get(prices.size() - 40));
    }
}
