import java.io.IOException;
import java.nio.charset.StandardCharsets;
import java.nio.file.Files;
import java.nio.file.Path;
import java.util.NoSuchElementException;
import java.util.TreeSet;
import java.util.function.Supplier;
import java.util.function.ToIntFunction;

/** What the boundary tests share: the sentence that is tested, answers that are due, houses, pictures of an object. */
final class Sheet {
    static final int NONE = -1;
    static final int HIDDEN = -1000000;
    /** Stands for a NoSuchElementException. */
    static final int THROWN = -777;
    /** Numbers that are no index of anything, and that a wrong sum could wrap round. */
    static final int[] FAR = {-2, 32, 64, 1000000, Integer.MIN_VALUE, Integer.MIN_VALUE + 1, Integer.MAX_VALUE};

    private static final Path DOCUMENT = Path.of("../shared/DOC.md");

    private final String document = read();
    private final TreeSet<Integer> promises = new TreeSet<>();
    private String sentence = "";
    private int sentences = 0;
    private int checks = 0;
    private int wrong = 0;

    private static String read() {
        try {
            return plain(Files.readString(DOCUMENT, StandardCharsets.UTF_8));
        } catch (IOException e) {
            System.out.println(DOCUMENT + " can't be read: the sentences are not looked up");
            return null;
        }
    }

    private static String plain(String text) {
        return text.replaceAll("\\s+", " ");
    }

    /** What follows tests this sentence of the document, which these promises rest on. */
    void says(String words, int... ofPromises) {
        sentences++;
        StringBuilder named = new StringBuilder("promise");
        for (int promise : ofPromises) {
            promises.add(promise);
            named.append(' ').append(promise);
        }
        sentence = named + ", \"" + words + "\"";
        if (document != null && !document.contains(plain(words))) {
            wrong++;
            System.out.println(sentence + ": these words do not stand in the document");
        }
    }

    void due(String call, long got, long want) {
        checks++;
        if (got != want) {
            wrong++;
            System.out.println(sentence + ": " + call + " answered " + got + ", due is " + want);
        }
    }

    void due(String call, boolean got, boolean want) {
        due(call, got ? 1 : 0, want ? 1 : 0);
    }

    private void same(String call, String got, String want) {
        checks++;
        if (!got.equals(want)) {
            wrong++;
            System.out.println(sentence + ": " + call + " left\n    " + got + "\n  due is\n    " + want);
        }
    }

    /** Ends the program; wrong if one of the promises was never named. */
    void finish(int firstPromise, int lastPromise) {
        for (int promise = firstPromise; promise <= lastPromise; promise++) {
            if (!promises.contains(promise)) {
                wrong++;
                System.out.println("no sentence of promise " + promise + " was tested");
            }
        }
        System.out.println(sentences + " sentences, " + checks + " checks, " + wrong + " answers are not as due");
        if (wrong != 0) {
            System.exit(1);
        }
    }

    // ---- texts and houses

    /** The answer of the last feed (or how long the TAPE is, if there is nothing to feed). */
    static int put(ArmchairHouse x, String text) {
        byte[] bytes = text.getBytes(StandardCharsets.ISO_8859_1);
        int answer = x.count(5);
        for (int i = 0; i < bytes.length; i += 20) {
            int[] five = new int[5];
            for (int j = 0; j < 20 && i + j < bytes.length; j++) {
                five[j / 4] |= (bytes[i + j] & 255) << 24 - 8 * (j % 4);
            }
            answer = x.feed(five[0], five[1], five[2], five[3], five[4]);
        }
        return answer;
    }

    static int tell(ArmchairHouse x, int sort, String text) {
        x.end(0);
        put(x, text);
        return x.text(sort);
    }

    int fault(int sort, String text) {
        ArmchairHouse x = new ArmchairHouse();
        put(x, text);
        return x.fault(sort);
    }

    /** No FAULT, and it is taken. */
    void whole(int sort, String text) {
        ArmchairHouse x = new ArmchairHouse();
        put(x, text);
        due("fault(" + sort + ") of '" + text + "'", x.fault(sort), NONE);
        due("text(" + sort + ") of '" + text + "' is taken", x.text(sort) >= 0, true);
        due("its tape", x.count(5), 0);
    }

    /** The FAULT, and it is not taken. */
    void wrongAt(int sort, String text, int at) {
        ArmchairHouse x = new ArmchairHouse();
        put(x, text);
        due("fault(" + sort + ") of '" + text + "'", x.fault(sort), at);
        due("text(" + sort + ") of '" + text + "'", x.text(sort), NONE);
        due("its tape", x.count(5), text.length());
        due("what there is of that sort", x.count(sort == 0 ? 0 : sort + 2), 0);
    }

    ArmchairHouse at(String house) {
        ArmchairHouse x = new ArmchairHouse();
        due("the house " + house + " is taken", tell(x, 0, house) > 0, true);
        return x;
    }

    ArmchairHouse by(String house, String law) {
        ArmchairHouse x = at(house);
        due("the law " + law, tell(x, 1, law), 0);
        due("law(0)", x.law(0), true);
        return x;
    }

    static int chair(ArmchairHouse x, int chair, int what) {
        try {
            return x.chair(chair, what);
        } catch (NoSuchElementException e) {
            return THROWN;
        }
    }

    /** Goes on by EVENINGS without change or illness if the house has one sitter and FLU is 0. */
    static void pass(ArmchairHouse x, int evenings) {
        for (int left = evenings; left > 0; left -= 30) {
            x.years(Math.min(30, left), left);
        }
    }

    /**
     * Something of everything: 3 CHAIRS, 4 SITTERS, 2 PLAYS, 2 LAWS, SEASONS of 3, 2 and 1 STEPS, one HOWLED, an IMAGE,
     * seven ACTS, two lines of LOG, one ILL, a TAPE.
     */
    ArmchairHouse rich() {
        ArmchairHouse x = at("sl10p4;pa9b0c4m5;pa1b2c3m1;ch6t0m10;ch3t0m3;ch9t1m50;td1;td4;td0;td2");
        tell(x, 1, "y:f+h-d");
        tell(x, 1, "y:e+9");
        x.law(0);
        tell(x, 2, "e1;x02;i2");
        tell(x, 2, "e0;e0");
        tell(x, 2, "i3");
        x.flu(3);
        x.howled(0, 1, 0, 3, true);
        x.evening(1);
        x.image();
        x.evening(0);
        x.change(0, 2);
        x.ill(1);
        x.heart(2, 4);
        x.give(1, 5);
        x.price(3);
        put(x, "e1");
        return x;
    }

    // ---- what is refused

    /** A question, whatever it answers. */
    void changesNothing(String call, ToIntFunction<ArmchairHouse> ask) {
        ArmchairHouse x = rich();
        ask.applyAsInt(x);
        ask.applyAsInt(x);
        same(call, picture(x), picture(rich()));
    }

    /** The answer, and that all is as on another object that was made so and not asked. */
    void refused(Supplier<ArmchairHouse> make, String call, ToIntFunction<ArmchairHouse> ask, int want) {
        ArmchairHouse x = make.get();
        due(call, ask.applyAsInt(x), want);
        same(call, picture(x), picture(make.get()));
    }

    /** What can be seen of an object (of a long LOG and of many ACTS the latest); it is used up by it. */
    private static String picture(ArmchairHouse x) {
        StringBuilder s = new StringBuilder("counts");
        for (int i = 0; i < 14; i++) {
            s.append(' ').append(x.count(i));
        }
        s.append(" faults ").append(x.fault(0)).append(' ').append(x.fault(1)).append(' ').append(x.fault(2));
        s.append(" leads ").append(x.rule(0)).append(" sitters");
        for (int sitter = 0; sitter < x.count(1); sitter++) {
            s.append(' ').append(x.sitter(sitter, 0));
        }
        for (int play = 0; play < x.count(2); play++) {
            s.append(" play");
            for (int what = 0; what < 4; what++) {
                s.append(' ').append(x.drama(play, what));
            }
        }
        for (int season = 0; season < x.count(4); season++) {
            s.append(" season ").append(x.run(season, 1));
            for (int i = 0; x.step(season, i, 0) != HIDDEN; i++) {
                s.append(' ').append(x.step(season, i, 0)).append(x.step(season, i, 1)).append(x.step(season, i, 2));
            }
        }
        for (int i = 0; i < 12 && x.log(i, 0) != NONE; i++) {
            s.append(" log ").append(x.log(i, 0)).append(' ').append(x.log(i, 1)).append(' ').append(x.log(i, 2));
        }
        now(x, s);
        for (int i = 0; i < 8 && x.undo() != NONE; i++) {
            s.append(" undone");
            now(x, s);
        }
        s.append(" back ").append(x.back());
        now(x, s);
        for (int law = 0; law < x.count(3); law++) {
            x.law(law);
            s.append(" law ").append(x.feels(0, 0, 0)).append(' ').append(x.feels(0, 0, 1));
        }
        for (int sort = 0; sort < 3; sort++) {
            s.append(" text ").append(x.text(sort));
        }
        return s.toString();
    }

    private static void now(ArmchairHouse x, StringBuilder s) {
        s.append(" price ").append(x.rule(1)).append(" ill ").append(x.count(9)).append(" evening ").append(x.count(7));
        for (int c = 0; c < x.count(0); c++) {
            s.append(" chair");
            for (int what = 0; what < 4; what++) {
                s.append(' ').append(chair(x, c, what));
            }
            s.append(' ').append(x.feels(c, 0, 0)).append(' ').append(x.whose(c));
        }
    }
}
