/** The boundary sentences of Terms, parts 2 and 4: MOVED, EVENINGS, ACTS, the LOG, YEARS, IMAGES. */
public final class EveningEdgesTest {
    private static final int NONE = Sheet.NONE;
    private static final Sheet SHEET = new Sheet();
    /** One chair, one sitter, one minute, led out by 99 alone: what a LAW gives is what is MOVED. */
    private static final String ONE = "sl99;pm1;c;t";

    public static void main(String[] args) {
        moved();
        letters();
        eveningsBeginAndEnd();
        leadsOut();
        endOfAnEvening();
        tears();
        logs();
        actsByHand();
        actsUndone();
        undoneLogs();
        yearsByBounds();
        yearsByDraws();
        images();
        imagesOfLogs();
        SHEET.finish(12, 20);
    }

    private static String times(String part, int n) {
        return part.repeat(n);
    }

    // ---- MOVED

    private static void moved() {
        SHEET.says("held within 0 .. 99", 10, 12, 24);
        String[] laws = {"y:98", "y:99", "y:100", "y:9999*9999", "y:1", "y:0", "y:0-1", "y:0-9999*9999"};
        int[] held = {98, 99, 99, 99, 1, 0, 0, 0};
        for (int i = 0; i < laws.length; i++) {
            ArmchairHouse x = SHEET.by(ONE, laws[i]);
            SHEET.due("feels by " + laws[i], x.feels(0, 0, 0), held[i]);
            SHEET.due("an evening by " + laws[i], x.evening(0), held[i]);
        }
        ArmchairHouse x = SHEET.by("sl99;pm1;c;c;t", "y:150");
        SHEET.due("held, then halved", x.feels(0, 0, 0), 49);
        SHEET.due("both", x.evening(0), 98);
        SHEET.says("(none at first: FEELING and HEART, less DULLNESS)", 1, 10, 24);
        SHEET.due("none at first", new ArmchairHouse().count(6), NONE);
        SHEET.due("9 and 9, less 0", SHEET.at("sl99;pa9m1;ch9;td0").feels(0, 0, 0), 18);
        SHEET.due("0 and 0, less 9", SHEET.at("sl99;pa0m1;ch0;td9").feels(0, 0, 0), 0);
        SHEET.due("4 and 5, less 9", SHEET.at("sl99;pa4m1;ch5;td9").feels(0, 0, 0), 0);
        SHEET.due("5 and 5, less 9", SHEET.at("sl99;pa5m1;ch5;td9").feels(0, 0, 0), 1);
        SHEET.says("by how many CHAIRS have a TICKET of that SITTER and are not OUT, cut", 12, 24);
        int[] shares = {11, 5, 3, 2, 2, 1};
        for (int n = 1; n <= 6; n++) {
            x = SHEET.by("sl99;pm1;" + times("c;", n) + "t", "y:11");
            SHEET.due("11 by " + n, x.feels(n - 1, 0, 0), shares[n - 1]);
            SHEET.due("an evening of " + n, x.evening(0), n * shares[n - 1]);
        }
        SHEET.due("5 by 6", SHEET.by("sl99;pm1;" + times("c;", 6) + "t", "y:5").evening(0), 0);
        x = SHEET.by("sl99;pm1;c;ct1;c;t;t", "y:11");
        SHEET.due("shared by the first and the third", x.feels(2, 0, 0), 5);
        SHEET.due("not shared", x.feels(1, 0, 0), 11);
        // chair 0 is OUT from minute 1 on: 2 by 2, then 2, 2
        x = SHEET.by("sl10;pm3;ch9;ch0;t", "y:h*4+2");
        SHEET.due("by who is not OUT", x.feels(1, 0, 0), 5);
        SHEET.due("led out at once", x.feels(0, 0, 0), 19);
        SHEET.says("Nothing from a SITTER that is ILL.", 12, 14, 24);
        x = SHEET.by("sl8;pm2;c;ct1;t;t", "y:7");
        x.ill(0);
        SHEET.due("ill", x.feels(0, 0, 0), 0);
        SHEET.due("not ill", x.feels(1, 0, 0), 14);
        SHEET.due("an evening", x.evening(0), 14);
        SHEET.due("the next", x.evening(0), 28);
        x = SHEET.by("sl1;p;" + times("c;", 6) + "t", "y:99");
        x.ill(0);
        SHEET.due("nobody led out by one that is ill", x.first(0), NONE);
        SHEET.due("nothing", x.evening(0), 0);
        SHEET.due("out", x.log(0, 2), 0);
    }

    private static void letters() {
        SHEET.says("letters: f FEELING, h HEART, d DULLNESS, n how many CHAIRS have it so, k the MINUTE, e the EVENING.", 10, 24);
        for (int v = 0; v <= 9; v++) {
            SHEET.due("f " + v, SHEET.by("sl99;pm1a" + v + ";c;t", "y:f").feels(0, 0, 0), v);
            SHEET.due("h " + v, SHEET.by("sl99;pm1;ch" + v + ";t", "y:h").feels(0, 0, 0), v);
            SHEET.due("d " + v, SHEET.by("sl99;pm1;c;td" + v, "y:d").feels(0, 0, 0), v);
        }
        for (int n = 1; n <= 6; n++) {
            SHEET.due("n " + n, SHEET.by("sl99;pm1;" + times("c;", n) + "t", "y:n*n").feels(0, 0, 0), n);
        }
        SHEET.due("n of the others", SHEET.by("sl99;pm1;c;ct1;ct1;t;t", "y:n*n").feels(0, 0, 0), 1);
        for (int k = 0; k < 9; k++) {
            ArmchairHouse x = SHEET.by("sl99;pm9;c;t", "y:k=" + k + "?k+50;y:0");
            SHEET.due("k " + k, x.feels(0, 0, 0), 50 + k);
        }
        SHEET.due("k from 0 to 8", SHEET.by("sl99;pm9;c;t", "y:k").feels(0, 0, 0), 36);
        SHEET.due("f of minutes 0 to 8", SHEET.by("sl99;pa1b2c4m9;c;t", "y:f*[k/3+1]").feels(0, 0, 0), 7 + 14 + 21);
        ArmchairHouse x = SHEET.by(ONE, "y:e");
        for (int e = 0; e < 5; e++) {
            SHEET.due("e ahead of evening " + e, x.feels(0, 0, 0), e);
            SHEET.due("e in evening " + e, x.evening(0), e);
        }
        x = SHEET.by(ONE, "y:e/20");
        x.flu(0);
        Sheet.pass(x, 999);
        SHEET.due("e 999", x.feels(0, 0, 0), 49);
    }

    // ---- EVENINGS

    private static void eveningsBeginAndEnd() {
        SHEET.says("An EVENING (0 at first; 999 at most: none goes by then)", 5, 12, 43);
        ArmchairHouse x = SHEET.by(ONE, "y:e/100");
        SHEET.due("0 at first", x.count(7), 0);
        x.flu(0);
        Sheet.pass(x, 998);
        SHEET.due("998", x.count(7), 998);
        SHEET.due("the last", x.evening(0), 9);
        SHEET.due("999", x.count(7), 999);
        SHEET.due("none goes by", x.evening(0), NONE);
        SHEET.due("999 still", x.count(7), 999);
        SHEET.due("no line", x.log(0, 1), 9);
        SHEET.due("undone", x.undo(), 39);
        SHEET.due("998 again", x.count(7), 998);
        SHEET.due("the last again", x.evening(0), 9);
        SHEET.says("nobody is OUT as it begins", 12);
        x = SHEET.by("sl5;pm3;ch9;t", "y:5");
        for (int i = 0; i < 3; i++) {
            SHEET.due("feels", x.feels(0, 0, 0), 5);
            SHEET.due("an evening", x.evening(0), 5);
        }
        SHEET.says("(n by who is not OUT as the MINUTE begins)", 12, 24);
        for (int out = 0; out < 3; out++) {
            String[] hearts = {"ch1;", "ch1;", "ch1;"};
            hearts[out] = "ch9;";
            // 33, 4, 4; then 6, 6
            x = SHEET.by("sl20;pm2;" + hearts[0] + hearts[1] + hearts[2] + "t", "y:h=9?99;y:12");
            SHEET.due("chair " + out + " is led out", x.feels(out, 0, 0), 33);
            SHEET.due("another one", x.feels((out + 1) % 3, 0, 0), 10);
            SHEET.due("the third", x.feels((out + 2) % 3, 0, 0), 10);
            SHEET.due("all", x.evening(0), 53);
        }
        // the letter n, too: 6 by 2, then 2 by 1
        x = SHEET.by("sl40;pm2;ch9;ch0;t", "y:h=9?99;y:n*n+n");
        SHEET.due("n 2, then 1", x.feels(1, 0, 0), 5);
    }

    private static void leadsOut() {
        SHEET.says("with as much as LEADS one OUT, or more, it is OUT from the next MINUTE on", 12, 24);
        int[] leads = {1, 2, 10, 98, 99};
        for (int l : leads) {
            String house = "sl" + l + ";pm3;ch5;t";
            ArmchairHouse x = SHEET.by(house, "y:" + (l - 1));
            SHEET.due("less than " + l, x.feels(0, 0, 1), NONE);
            SHEET.due("all its minutes", x.evening(0), 3 * (l - 1));
            SHEET.due("nobody out", x.log(0, 2), 0);
            SHEET.due("heart", Sheet.chair(x, 0, 0), 5);
            for (int more = 0; more < 2; more++) {
                int moved = Math.min(99, l + more);
                x = SHEET.by(house, "y:" + (l + more));
                SHEET.due("the minute", x.feels(0, 0, 1), 0);
                SHEET.due(moved + " with " + l, x.evening(0), moved);
                SHEET.due("out", x.log(0, 2), 1);
                SHEET.due("heart", Sheet.chair(x, 0, 0), 4);
            }
        }
        for (int k = 0; k < 9; k++) {
            ArmchairHouse x = SHEET.by("sl10;pm9;c;t", "y:k=" + k + "?10;y:1");
            SHEET.due("led out in minute " + k, x.feels(0, 0, 1), k);
            SHEET.due("moved up to it", x.evening(0), k + 10);
            SHEET.due("out at its end", x.log(0, 2), 1);
        }
        ArmchairHouse x = SHEET.by("sl10;pm8;c;t", "y:k=8?10;y:1");
        SHEET.due("no minute behind the last", x.feels(0, 0, 1), NONE);
        // feelings of several minutes are not put together
        x = SHEET.by("sl10;pm9;c;t", "y:9");
        SHEET.due("9 in each of 9", x.feels(0, 0, 1), NONE);
    }

    private static void endOfAnEvening() {
        SHEET.says("those who were OUT are not any more, HEART of these one less (0 at least)", 12);
        ArmchairHouse x = SHEET.by("sl5;pm2;ch2;ch9t1;t;t", "y:h<9?5;y:0");
        int[] hearts = {1, 0, 0, 0};
        for (int heart : hearts) {
            SHEET.due("an evening", x.evening(0), 5);
            SHEET.due("its heart", Sheet.chair(x, 0, 0), heart);
            SHEET.due("another heart", Sheet.chair(x, 1, 0), 9);
        }
        SHEET.says("ILL ones are well", 12, 14, 18);
        x = SHEET.at("p;c;t;t;t;t;t;t");
        for (int i = 0; i < 6; i++) {
            SHEET.due("ill(" + i + ")", x.ill(i), true);
        }
        SHEET.due("all ill", x.count(9), 63);
        SHEET.due("nothing", x.evening(0), 0);
        SHEET.due("all well", x.count(9), 0);
        SHEET.due("its sitter is well", x.sitter(0, 1), 0);
        SHEET.due("ill again", x.ill(5), true);
        x.years(1, 1);
        SHEET.due("well by years", x.count(9), 0);
        SHEET.says("the EVENING is one later", 12, 43);
        for (int i = 2; i < 6; i++) {
            SHEET.due("the evening", x.count(7), i);
            x.evening(0);
        }
    }

    private static void tears() {
        SHEET.says("TEARS of it more (9,999 at most)", 8, 12);
        // 11 times 882 is 9,702; 288 make it 9,990; 9 make it 9,999
        ArmchairHouse x = SHEET.by("sl99;pm9;c;ct1;t;td9", "y:d=9?0;y:e<11?98;y:e=11?32;y:1");
        for (int i = 1; i <= 11; i++) {
            SHEET.due("an evening", x.evening(0), 882);
            SHEET.due("tears", Sheet.chair(x, 0, 3), 882 * i);
        }
        SHEET.due("the twelfth", x.evening(0), 288);
        SHEET.due("tears", Sheet.chair(x, 0, 3), 9990);
        SHEET.due("the thirteenth", x.evening(0), 9);
        SHEET.due("just as many as may be", Sheet.chair(x, 0, 3), 9999);
        SHEET.due("the fourteenth", x.evening(0), 9);
        SHEET.due("no more", Sheet.chair(x, 0, 3), 9999);
        SHEET.due("moved is not held by it", x.log(0, 1), 9);
        SHEET.due("the other's tears", Sheet.chair(x, 1, 3), 0);
        SHEET.due("all tears", x.count(8), 9999);
        x = SHEET.by("sl99;pm9;c;t", "y:98");
        for (int i = 0; i < 12; i++) {
            x.evening(0);
        }
        SHEET.due("not beyond", Sheet.chair(x, 0, 3), 9999);
        x = SHEET.by("sl99;pm9;c;ct1;ct2;ct3;ct4;ct5;t;t;t;t;t;t", "y:98");
        x.price(30);
        x.flu(0);
        for (int i = 0; i < 12; i++) {
            SHEET.due("all are moved", x.evening(0), 6 * 882);
        }
        SHEET.due("six times", x.count(8), 6 * 9999);
    }

    private static void logs() {
        SHEET.says("LOG: the PLAY, how much all were MOVED, who was OUT at its end (bits; the latest 60).", 12, 18, 20, 43);
        String six = "sl50;pm1;ch1;ch2t1;ch3t2;ch4t3;ch5t4;ch6t5;t;t;t;t;t;t";
        for (int i = 0; i < 6; i++) {
            ArmchairHouse x = SHEET.by(six, "y:h=" + (i + 1) + "?50;y:1");
            x.evening(0);
            SHEET.due("out " + i, x.log(0, 2), 1 << i);
            SHEET.due("moved", x.log(0, 1), 55);
        }
        ArmchairHouse x = SHEET.by(six, "y:99");
        x.evening(0);
        SHEET.due("all out", x.log(0, 2), 63);
        SHEET.due("most of a minute", x.log(0, 1), 594);
        x = SHEET.by("sl99;pm9;ch1;ch2t1;ch3t2;ch4t3;ch5t4;ch6t5;t;t;t;t;t;t", "y:98+k/8");
        x.evening(0);
        SHEET.due("the most that all can be moved", x.log(0, 1), 6 * (8 * 98 + 99));
        SHEET.due("all out in the last minute", x.log(0, 2), 63);
        x = SHEET.at("p;p;p;p;c;t");
        for (int play = 3; play >= 0; play--) {
            x.evening(play);
            SHEET.due("the play", x.log(0, 0), play);
        }
        SHEET.due("the first play", x.log(3, 0), 3);
        x = SHEET.by(ONE, "y:e");
        SHEET.due("none yet", x.log(0, 0), NONE);
        for (int i = 1; i <= 62; i++) {
            x.evening(0);
            int kept = Math.min(60, i);
            SHEET.due("how long", x.count(12), kept);
            SHEET.due("the latest", x.log(0, 1), i - 1);
            SHEET.due("the oldest", x.log(kept - 1, 1), i - kept);
            SHEET.due("none behind it", x.log(kept, 1), NONE);
        }
        x = SHEET.by(ONE, "y:e-e/90*90");
        x.flu(0);
        Sheet.pass(x, 300);
        for (int i = 0; i < 60; i++) {
            SHEET.due("log(" + i + ",1) behind 300", x.log(i, 1), (299 - i) % 90);
        }
        SHEET.due("no more", x.log(60, 1), NONE);
    }

    // ---- ACTS

    private static void actsByHand() {
        SHEET.says("a CHAIR changes its TICKET (MONEY less by PRICE; another SITTER)", 13);
        String two = ";p;c;t;t";
        SHEET.due("just enough", SHEET.at("sp5;p;cm5;t;t").change(0, 1), 0);
        SHEET.due("one too little", SHEET.at("sp5;p;cm4;t;t").change(0, 1), NONE);
        SHEET.due("for nothing", SHEET.at("sp0;p;cm0;t;t").change(0, 1), 0);
        SHEET.due("the same for nothing", SHEET.at("sp0;p;cm0;t;t").change(0, 0), NONE);
        SHEET.due("99 less 30", SHEET.at("sp30;p;cm99;t;t").change(0, 1), 69);
        SHEET.due("one sitter", SHEET.at("p;c;t").change(0, 0), NONE);
        ArmchairHouse x = SHEET.at("sp10" + two);
        SHEET.due("first", x.change(0, 1), 10);
        SHEET.due("and back", x.change(0, 0), 0);
        SHEET.due("no more", x.change(0, 1), NONE);
        SHEET.due("its ticket", Sheet.chair(x, 0, 1), 0);
        SHEET.says("a SITTER falls ILL (once ahead of an EVENING)", 14);
        SHEET.due("ill", x.ill(1), true);
        SHEET.due("once", x.ill(1), false);
        SHEET.due("the other", x.ill(0), true);
        x.evening(0);
        SHEET.due("once more behind an evening", x.ill(1), true);
        SHEET.due("once", x.ill(1), false);
        SHEET.says("a HEART is set (0 .. 9)", 15);
        x = SHEET.at("p;ch5;t");
        SHEET.due("9", x.heart(0, 9), 5);
        SHEET.due("10", x.heart(0, 10), NONE);
        SHEET.due("0", x.heart(0, 0), 9);
        SHEET.due("-1", x.heart(0, -1), NONE);
        SHEET.due("0 again", x.heart(0, 0), NONE);
        SHEET.due("it is", Sheet.chair(x, 0, 0), 0);
        SHEET.says("MONEY is given (1 .. 50, 99 at most)", 16);
        SHEET.due("49 and 50", SHEET.at("p;cm49;t").give(0, 50), 99);
        SHEET.due("50 and 50", SHEET.at("p;cm50;t").give(0, 50), NONE);
        SHEET.due("98 and 1", SHEET.at("p;cm98;t").give(0, 1), 99);
        SHEET.due("99 and 1", SHEET.at("p;cm99;t").give(0, 1), NONE);
        SHEET.due("0 and 0", SHEET.at("p;cm0;t").give(0, 0), NONE);
        SHEET.due("0 and 51", SHEET.at("p;cm0;t").give(0, 51), NONE);
        SHEET.due("50 and -1", SHEET.at("p;cm50;t").give(0, -1), NONE);
        SHEET.says("PRICE is set (0 .. 30)", 17);
        x = SHEET.at("sp30;p;c;t");
        SHEET.due("31", x.price(31), NONE);
        SHEET.due("30 again", x.price(30), NONE);
        SHEET.due("0", x.price(0), 30);
        SHEET.due("-1", x.price(-1), NONE);
        SHEET.due("0 again", x.price(0), NONE);
        SHEET.due("30", x.price(30), 0);
        SHEET.due("it is", x.rule(1), 30);
    }

    private static void actsUndone() {
        SHEET.says("All these are ACTS: the latest 40 can be UNDONE one by one", 12, 13, 14, 15, 16, 17, 18, 19, 23, 43);
        ArmchairHouse x = SHEET.at("sp5;p;ch4m7;t;t");
        x.evening(0);
        SHEET.due("an evening", x.count(13), 1);
        x.change(0, 1);
        SHEET.due("a change", x.count(13), 2);
        x.ill(1);
        SHEET.due("an illness", x.count(13), 3);
        x.heart(0, 9);
        SHEET.due("a heart", x.count(13), 4);
        x.give(0, 3);
        SHEET.due("a gift", x.count(13), 5);
        x.price(6);
        SHEET.due("a price", x.count(13), 6);
        x.flu(5);
        x.howled(0, 0, 0, 0, true);
        x.image();
        Sheet.tell(x, 1, "y:1");
        x.law(0);
        Sheet.tell(x, 2, "e0");
        x.run(0, 0);
        x.borne(4, 1);
        SHEET.due("nothing else is", x.count(13), 6);
        SHEET.due("the price undone", x.undo(), 5);
        SHEET.due("the price", x.rule(1), 5);
        SHEET.due("the gift undone", x.undo(), 4);
        SHEET.due("money", Sheet.chair(x, 0, 2), 2);
        SHEET.due("the heart undone", x.undo(), 3);
        SHEET.due("the heart", Sheet.chair(x, 0, 0), 4);
        SHEET.due("the illness undone", x.undo(), 2);
        SHEET.due("nobody ill", x.count(9), 0);
        SHEET.due("the change undone", x.undo(), 1);
        SHEET.due("the ticket", Sheet.chair(x, 0, 1), 0);
        SHEET.due("its money", Sheet.chair(x, 0, 2), 7);
        SHEET.due("the evening undone", x.undo(), 0);
        SHEET.due("no tears", Sheet.chair(x, 0, 3), 0);
        SHEET.due("evening 0", x.count(7), 0);
        SHEET.due("no log", x.count(12), 0);
        SHEET.due("none", x.undo(), NONE);
        SHEET.due("flu is no act", x.count(10), 5);
        SHEET.due("nor is the law", x.count(6), 0);
        SHEET.due("nor what was howled", x.count(11), 1);
        for (int acts = 38; acts <= 125; acts += acts < 43 ? 1 : 41) {
            x = SHEET.at("p;c;t");
            for (int i = 1; i <= acts; i++) {
                x.price(i % 31);
            }
            SHEET.due("acts of " + acts, x.count(13), Math.min(40, acts));
            for (int i = 1; i <= Math.min(40, acts); i++) {
                SHEET.due("undo " + i + " of " + acts, x.undo(), Math.min(40, acts) - i);
                SHEET.due("the price then", x.rule(1), priceBehind(acts - i));
            }
            SHEET.due("no more of " + acts, x.undo(), NONE);
            SHEET.due("the price stays", x.rule(1), priceBehind(Math.max(0, acts - 40)));
            x.heart(0, 9);
            SHEET.due("one again", x.count(13), 1);
            SHEET.due("undone", x.undo(), 0);
            SHEET.due("the heart", Sheet.chair(x, 0, 0), 5);
        }
    }

    /** Behind so many acts of a row 1, 2 .. 30, 0, 1 .. of prices. */
    private static int priceBehind(int acts) {
        return acts == 0 ? 5 : acts % 31;
    }

    private static void undoneLogs() {
        SHEET.says("(LOG, too)", 19, 20);
        for (int evenings : new int[] {39, 40, 41, 59, 60, 61, 99, 100, 101, 127, 128, 129, 187, 260}) {
            ArmchairHouse x = SHEET.by(ONE, "y:e-e/90*90");
            x.flu(0);
            Sheet.pass(x, evenings);
            int undone = Math.min(40, evenings);
            for (int i = 0; i < undone; i++) {
                x.undo();
            }
            int left = evenings - undone;
            SHEET.due("how long behind " + evenings, x.count(12), Math.min(60, left));
            for (int i = 0; i < 60; i++) {
                int e = left - 1 - i;
                SHEET.due("log(" + i + ",1) behind " + evenings, x.log(i, 1), e < 0 ? NONE : e % 90);
            }
            x.evening(0);
            SHEET.due("the next evening's line", x.log(0, 1), left % 90);
            SHEET.due("the line ahead of it", x.log(1, 1), left == 0 ? NONE : (left - 1) % 90);
            x.undo();
            SHEET.due("undone", x.log(0, 1), left == 0 ? NONE : (left - 1) % 90);
        }
    }

    // ---- YEARS

    private static void yearsByBounds() {
        SHEET.says("n (1 .. 30) EVENINGS", 18);
        ArmchairHouse x = SHEET.by(ONE, "y:1");
        SHEET.due("0", x.years(0, 7), NONE);
        SHEET.due("31", x.years(31, 7), NONE);
        SHEET.due("nothing", x.count(7), 0);
        SHEET.due("1", x.years(1, 7), 1);
        SHEET.due("30", x.years(30, 7), 31);
        SHEET.says("beyond 999", 12, 18);
        x.flu(0);
        Sheet.pass(x, 938);
        SHEET.due("969", x.count(7), 969);
        x.evening(0);
        SHEET.due("970 and 30", x.years(30, 7), NONE);
        SHEET.due("nothing", x.count(7), 970);
        x.undo();
        SHEET.due("969 and 30", x.years(30, 7), 999);
        SHEET.due("999 and 1", x.years(1, 7), NONE);
        SHEET.due("an evening", x.evening(0), NONE);
        x.undo();
        SHEET.due("998 and 2", x.years(2, 7), NONE);
        SHEET.due("998 and 1", x.years(1, 7), 999);
        SHEET.says("Each EVENING with what is ahead of it is one ACT.", 18, 19);
        for (int n = 1; n <= 30; n++) {
            x = SHEET.at("sp0;p;p;c;c;t;t;t");
            x.flu(9);
            x.years(n, 3);
            SHEET.due("acts of " + n, x.count(13), n);
            SHEET.due("lines of " + n, x.count(12), n);
        }
        x.years(30, 4);
        SHEET.due("40 at most", x.count(13), 40);
    }

    /** The document's draws. */
    private static long x64;

    private static int draw(int j) {
        x64 = 6364136223846793005L * x64 + 1442695040888963407L;
        return (int) Long.remainderUnsigned(x64 >>> 33, j);
    }

    /** One EVENING of YEARS by hand. */
    private static void drawnEvening(ArmchairHouse y, int flu) {
        if (draw(10) < flu) {
            y.ill(draw(y.count(1)));
        }
        int chair = draw(y.count(0));
        y.change(chair, draw(y.count(1)));
        y.evening(draw(y.count(2)));
    }

    private static void alike(String what, ArmchairHouse x, ArmchairHouse y) {
        for (int i : new int[] {7, 8, 9, 12}) {
            SHEET.due(what + ", count(" + i + ")", x.count(i), y.count(i));
        }
        for (int c = 0; c < y.count(0); c++) {
            for (int i = 0; i < 4; i++) {
                SHEET.due(what + ", chair(" + c + "," + i + ")", Sheet.chair(x, c, i), Sheet.chair(y, c, i));
            }
        }
        for (int i = 0; i < y.count(12); i++) {
            for (int part = 0; part < 3; part++) {
                SHEET.due(what + ", log(" + i + "," + part + ")", x.log(i, part), y.log(i, part));
            }
        }
    }

    private static void yearsByDraws() {
        String[] houses = {"p;c;t", "sp0l5;pm9;pa9;c;ch9;t;td0",
            "sp2l7;p;pa9;pb9;pm9;c;ct1m0;ct2m1;ct3m2;ct4m99;ct5;td0;td1;t;t;td9;t"};
        long[] seeds = {0, 1, -1, 33, Long.MIN_VALUE, Long.MAX_VALUE};
        for (String house : houses) {
            for (int flu : new int[] {0, 1, 9}) {
                SHEET.says("a draw of 10 below FLU (0 .. 9; 1 at first): a draw of how many SITTERS there are: ILL", 1, 11, 18);
                for (long seed : seeds) {
                    ArmchairHouse x = SHEET.at(house);
                    ArmchairHouse y = SHEET.at(house);
                    SHEET.due("1 at first", x.count(10), 1);
                    SHEET.due("flu", x.flu(flu), flu != 1);
                    x64 = seed;
                    for (int i = 0; i < 11; i++) {
                        drawnEvening(y, flu);
                    }
                    SHEET.due("years", x.years(12, seed), 12);
                    x.undo();
                    alike("flu " + flu + ", seed " + seed + ", all but the last undone", x, y);
                    drawnEvening(y, flu);
                    x = SHEET.at(house);
                    x.flu(flu);
                    x.years(12, seed);
                    alike("flu " + flu + ", seed " + seed, x, y);
                }
            }
        }
        SHEET.says("x, at first the seed, becomes x times 6364136223846793005 and 1442695040888963407 "
            + "(64 bits, going round); a draw of j: (x shifted right by 33, without sign) modulo j.", 18);
        // by hand: seed 0 gives 1442695040888963407, whose upper 31 bits are 167953012, and so on
        java.math.BigInteger round = java.math.BigInteger.ONE.shiftLeft(64);
        for (long seed : seeds) {
            java.math.BigInteger x = java.math.BigInteger.valueOf(seed).mod(round);
            x64 = seed;
            for (int i = 0; i < 40; i++) {
                x = x.multiply(new java.math.BigInteger("6364136223846793005"))
                    .add(new java.math.BigInteger("1442695040888963407")).mod(round);
                int drawn = x.shiftRight(33).mod(java.math.BigInteger.valueOf(1 + i % 6)).intValue();
                SHEET.due("the draws of this test, draw " + i + " of " + seed, draw(1 + i % 6), drawn);
            }
        }
        SHEET.says("it changes its TICKET to that, if it can", 18);
        ArmchairHouse x = SHEET.at("sp1;p;cm0;cm0t1;t;t;t;t;t;t");
        SHEET.due("years without money", x.years(30, 5), 30);
        SHEET.due("its ticket", Sheet.chair(x, 0, 1), 0);
        SHEET.due("the other's", Sheet.chair(x, 1, 1), 1);
        SHEET.due("its money", Sheet.chair(x, 0, 2), 0);
        x = SHEET.at("sp30;p;cm99;t;t;t;t;t;t");
        x.years(30, 5);
        SHEET.due("three times and no more", Sheet.chair(x, 0, 2), 9);
    }

    // ---- IMAGES

    private static ArmchairHouse pictured() {
        ArmchairHouse x = SHEET.at("sl6p5;pm2;ch9m30;ch4t1m30;t;t;t");
        x.evening(0);
        x.ill(2);
        SHEET.due("the image", x.image(), 1);
        return x;
    }

    private static void asPictured(ArmchairHouse x, String behind) {
        SHEET.due("back behind " + behind, x.back(), 1);
        // 3 and 9, less 2: led out by 10; 3 and 4, less 2: 5 in each minute
        int[][] chairs = {{8, 0, 30, 10}, {4, 1, 30, 10}};
        for (int c = 0; c < 2; c++) {
            for (int i = 0; i < 4; i++) {
                SHEET.due("chair(" + c + "," + i + ") behind " + behind, Sheet.chair(x, c, i), chairs[c][i]);
            }
        }
        SHEET.due("ill behind " + behind, x.count(9), 4);
        SHEET.due("price behind " + behind, x.rule(1), 5);
        SHEET.due("evening behind " + behind, x.count(7), 1);
        SHEET.due("log behind " + behind, x.count(12), 1);
        SHEET.due("its line", x.log(0, 1), 20);
        SHEET.due("its out", x.log(0, 2), 1);
        SHEET.due("acts behind " + behind, x.count(13), 0);
        SHEET.due("undo behind " + behind, x.undo(), NONE);
    }

    private static void images() {
        SHEET.says("An IMAGE keeps CHAIRS (HEART, TICKET, MONEY, TEARS), ILL ones, PRICE, the EVENING, the LOG; "
            + "BACK: they are so again (no ACT can be UNDONE then).", 41, 42);
        ArmchairHouse x = pictured();
        asPictured(x, "nothing");
        asPictured(x, "back");
        x.heart(0, 1);
        asPictured(x, "a heart");
        x.change(1, 0);
        asPictured(x, "a ticket");
        x.give(0, 50);
        asPictured(x, "money");
        x.price(30);
        asPictured(x, "a price");
        x.ill(0);
        asPictured(x, "an illness");
        x.evening(0);
        asPictured(x, "an evening");
        x.years(30, 9);
        x.years(30, 9);
        x.years(30, 9);
        asPictured(x, "ninety");
        x = pictured();
        x.undo();
        x.undo();
        SHEET.due("undone ahead of the image", x.count(7), 0);
        asPictured(x, "acts undone");
        x.evening(0);
        SHEET.due("an act", x.count(13), 1);
        SHEET.due("undone", x.undo(), 0);
        SHEET.due("as in the image", x.count(9), 4);
        SHEET.due("not further", x.undo(), NONE);
        x = pictured();
        x.flu(8);
        x.howled(0, 0, 0, 0, true);
        Sheet.tell(x, 1, "y:1");
        x.law(0);
        Sheet.tell(x, 2, "e0");
        Sheet.put(x, "abc");
        asPictured(x, "what it does not keep");
        SHEET.due("flu", x.count(10), 8);
        SHEET.due("howled", x.count(11), 1);
        SHEET.due("the law", x.count(6), 0);
        SHEET.due("the laws", x.count(3), 1);
        SHEET.due("the seasons", x.count(4), 1);
        SHEET.due("the tape", x.count(5), 3);
        SHEET.says("An IMAGE (instead of the one ahead): the EVENING.", 41, 42);
        x = pictured();
        x.evening(0);
        SHEET.due("another image", x.image(), 2);
        x.evening(0);
        SHEET.due("three evenings", x.count(7), 3);
        SHEET.due("back to the latter", x.back(), 2);
        SHEET.due("and again", x.back(), 2);
        SHEET.says("NONE: no IMAGE of this HOUSE.", 42);
        x = pictured();
        Sheet.tell(x, 0, "p;c;t");
        SHEET.due("another house", x.back(), NONE);
        SHEET.due("it stays", x.count(0), 1);
        SHEET.due("an image of it", x.image(), 0);
        SHEET.due("back to it", x.back(), 0);
        x = pictured();
        Sheet.tell(x, 0, "p;c");
        SHEET.due("a house with a fault is none", x.back(), 1);
    }

    private static void imagesOfLogs() {
        SHEET.says("the EVENING, the LOG; BACK: they are so again", 20, 41, 42);
        for (int ahead : new int[] {0, 1, 59, 60, 61, 127, 128, 129, 200}) {
            for (int behind : new int[] {0, 1, 59, 60, 61, 130}) {
                ArmchairHouse x = SHEET.by(ONE, "y:e-e/90*90");
                x.flu(0);
                Sheet.pass(x, ahead);
                x.image();
                Sheet.pass(x, behind);
                String what = ahead + " evenings, an image, " + behind + " evenings";
                SHEET.due("back: " + what, x.back(), ahead);
                SHEET.due("how long: " + what, x.count(12), Math.min(60, ahead));
                for (int i = 0; i < 61; i++) {
                    int e = i < 60 ? ahead - 1 - i : -1;
                    SHEET.due("log(" + i + ",1): " + what, x.log(i, 1), e < 0 ? NONE : e % 90);
                }
                Sheet.pass(x, 40);
                SHEET.due("forty more", x.log(39, 1), ahead % 90);
                for (int i = 0; i < 40; i++) {
                    x.undo();
                }
                for (int i = 0; i < 61; i++) {
                    int e = i < 60 ? ahead - 1 - i : -1;
                    SHEET.due("forty undone, log(" + i + ",1): " + what, x.log(i, 1), e < 0 ? NONE : e % 90);
                }
            }
        }
    }
}
