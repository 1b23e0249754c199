/** The boundary sentences of Terms, part 3: what would be, and what stands out. */
public final class QuestionEdgesTest {
    private static final int NONE = Sheet.NONE;
    private static final Sheet SHEET = new Sheet();
    /** Led out by 99 alone, one minute; six chairs, each with a sitter of its own. */
    private static final String SIX = "sl99;pm1;c;ct1;ct2;ct3;ct4;ct5;t;t;t;t;t;t";

    public static void main(String[] args) {
        apart();
        runs();
        performed();
        behindTheLastEvening();
        feels();
        first();
        ticketsByBounds();
        ticketsByRows();
        most();
        howledByBounds();
        howledAsSupposed();
        whose();
        next();
        halves();
        games();
        rests();
        borne();
        meant();
        odds();
        chairsThatStandOut();
        sittersAndPlays();
        hardens();
        SHEET.finish(22, 40);
    }

    private static String times(String part, int n) {
        return part.repeat(n);
    }

    private static void apart() {
        SHEET.says("(Apart, from as it is; EVENINGS go on behind 999, but not in RUN.)",
            22, 24, 25, 26, 27, 29, 30, 31, 32, 33, 34, 35, 36, 37, 38, 39, 40);
        SHEET.changesNothing("run", x -> x.run(0, 0) + x.run(1, 1));
        SHEET.changesNothing("feels", x -> x.feels(0, 0, 0) + x.feels(1, 1, 1));
        SHEET.changesNothing("first", x -> x.first(0));
        SHEET.changesNothing("tickets", x -> x.tickets(1, 3, 0) + x.tickets(0, 0, 1));
        SHEET.changesNothing("most", x -> x.most(1, 0) + x.most(0, 1));
        SHEET.changesNothing("whose", x -> x.whose(0));
        SHEET.changesNothing("following", x -> x.following(0, 3));
        SHEET.changesNothing("halves", x -> x.halves(0, 0, -1));
        SHEET.changesNothing("game", x -> x.game(0, 1, 0, 2, 2, 0));
        SHEET.changesNothing("rests", x -> x.rests(0, 1, 0, -1));
        SHEET.changesNothing("borne", x -> x.borne(4, 0));
        SHEET.changesNothing("meant", x -> x.meant(0, 4));
        SHEET.changesNothing("odds", x -> x.odds(0, 0, 50));
        for (int what = 0; what < 8; what++) {
            int of = what;
            SHEET.changesNothing("all", x -> x.all(of));
        }
        SHEET.changesNothing("peak", x -> x.peak(0, 0) + x.peak(0, 1));
        SHEET.changesNothing("house", x -> x.house(0));
        SHEET.changesNothing("hardens", x -> x.hardens(2, 0));
        SHEET.changesNothing("fault", x -> x.fault(0) + x.fault(1) + x.fault(2));
    }

    private static void run(ArmchairHouse x, String season, int behind, int moved) {
        int number = Sheet.tell(x, 2, season);
        SHEET.due("run of " + season, x.run(number, 0), behind);
        SHEET.due("moved by " + season, x.run(number, 1), moved);
    }

    private static void runs() {
        SHEET.says("RUN of a SEASON: behind how many STEPS the first is that can't be; how much all are MOVED by it.", 22);
        String house = "sl99p5;pm1;cm12;t;t";
        ArmchairHouse x = SHEET.by(house, "y:7");
        run(x, "x01;x00;x01", 2, 0);
        run(x, "x00;e0", 0, 0);
        run(x, "i0;i0;e0", 1, 0);
        run(x, "i0;e0;i0;e0", NONE, 0);
        x = SHEET.by(house, "y:7");
        run(x, "e0;i0;e0;e0", NONE, 14);
        run(x, "e0" + times(";e0", 14) + ";e1", 15, 105);
        run(x, "e0" + times(";e0", 15), NONE, 112);
        run(x, "i2", 0, 0);
        x = SHEET.by(house, "y:7");
        run(x, "x02", 0, 0);
        run(x, "x11", 0, 0);
        run(x, "e0;x01;e0;x00;e0;x01;e0", 5, 21);
        run(x, "e0", NONE, 7);
        x.ill(0);
        SHEET.due("from as it is: ill", x.run(3, 1), 0);
        x.price(30);
        SHEET.due("from as it is: a price", x.run(2, 0), 1);
        // hearts harden within it: 5, then led out no more by 4
        run(SHEET.by("sl5;pm2;ch5;t", "y:h"), "e0;e0", NONE, 5 + 8);
    }

    private static void performed() {
        SHEET.says("DO: its STEPS as ACTS, up to there.", 19, 23);
        ArmchairHouse x = SHEET.by("sl99p5;pm1;cm12;t;t", "y:7");
        Sheet.tell(x, 2, "x01;x00;x01;e0");
        Sheet.tell(x, 2, "e0" + times(";e0", 15));
        Sheet.tell(x, 2, "e1");
        SHEET.due("two of four", x.perform(0), 2);
        SHEET.due("two acts", x.count(13), 2);
        SHEET.due("money", Sheet.chair(x, 0, 2), 2);
        SHEET.due("no evening", x.count(7), 0);
        SHEET.due("nothing can be", x.perform(2), 0);
        SHEET.due("two acts still", x.count(13), 2);
        SHEET.due("all sixteen", x.perform(1), 16);
        SHEET.due("eighteen acts", x.count(13), 18);
        SHEET.due("sixteen lines", x.count(12), 16);
        SHEET.due("again", x.perform(1), 16);
        SHEET.due("and again", x.perform(1), 16);
        SHEET.due("forty acts", x.count(13), 40);
        SHEET.due("one undone", x.undo(), 39);
        SHEET.due("one step of it", x.count(7), 47);
        for (int i = 0; i < 39; i++) {
            x.undo();
        }
        SHEET.due("forty undone", x.count(7), 8);
    }

    private static void behindTheLastEvening() {
        SHEET.says("EVENINGS go on behind 999, but not in RUN.", 22, 23, 34);
        ArmchairHouse x = SHEET.by("sl99;pm1;c;t", "y:e>999?7;y:e=999?3;y:1");
        Sheet.tell(x, 2, "e0;e0");
        x.flu(0);
        Sheet.pass(x, 998);
        SHEET.due("run at 998", x.run(0, 0), 1);
        SHEET.due("moved by it", x.run(0, 1), 1);
        SHEET.due("borne at 998", x.borne(4, 1), 1 + 3 + 7 + 7);
        SHEET.due("done at 998", x.perform(0), 1);
        SHEET.due("run at 999", x.run(0, 0), 0);
        SHEET.due("moved by nothing", x.run(0, 1), 0);
        SHEET.due("done at 999", x.perform(0), 0);
        SHEET.due("feels at 999", x.feels(0, 0, 0), 3);
        SHEET.due("borne(1) at 999", x.borne(1, 1), 3);
        SHEET.due("borne(4) at 999", x.borne(4, 1), 24);
        SHEET.due("its row", x.borne(4, 0), 0);
        SHEET.due("999 still", x.count(7), 999);
    }

    private static void feels() {
        SHEET.says("how much it would be MOVED in all its MINUTES together (from when it is OUT on nothing); "
            + "in which MINUTE it would be LED OUT (MOVED so much).", 24);
        ArmchairHouse x = SHEET.by("sl10;pm9;c;t", "y:k=3?10;y:k+1");
        SHEET.due("up to minute 3", x.feels(0, 0, 0), 1 + 2 + 3 + 10);
        SHEET.due("minute 3", x.feels(0, 0, 1), 3);
        x = SHEET.by("sl10;pm9;c;t", "y:9");
        SHEET.due("all nine", x.feels(0, 0, 0), 81);
        SHEET.due("in none", x.feels(0, 0, 1), NONE);
        x = SHEET.by("sl10;pm1;c;t", "y:10");
        SHEET.due("one minute", x.feels(0, 0, 0), 10);
        SHEET.due("the first and last", x.feels(0, 0, 1), 0);
        x = SHEET.by("sl99;pm9;c;t", "y:98");
        SHEET.due("the most that is borne", x.feels(0, 0, 0), 882);
        x = SHEET.by("sl99;pm9;c;t", "y:k=8?99;y:98");
        SHEET.due("the most", x.feels(0, 0, 0), 883);
        SHEET.due("led out in the last", x.feels(0, 0, 1), 8);
        x = SHEET.by("sl99;pm9;c;t", "y:0");
        SHEET.due("nothing", x.feels(0, 0, 0), 0);
    }

    private static void first() {
        SHEET.says("FIRST by a PLAY: the CHAIR that is LED OUT first (of several the lowest).", 25);
        // a chair with heart h is led out in minute h; those with 9 are not
        int[][] hearts = {{5, 4, 3, 2, 1, 0}, {8, 8, 8, 8, 8, 8}, {9, 9, 9, 9, 9, 9}, {3, 2, 2, 9, 9, 2},
            {9, 9, 9, 9, 9, 8}, {0, 0, 9, 9, 9, 0}, {9, 1, 9, 0, 0, 9}};
        int[] due = {5, 0, NONE, 1, 5, 0, 3};
        for (int i = 0; i < due.length; i++) {
            StringBuilder house = new StringBuilder("sl50;pm9;t;t;t;t;t;t");
            for (int c = 0; c < 6; c++) {
                house.append(";ch").append(hearts[i][c]).append("t").append(c);
            }
            SHEET.due("first of row " + i, SHEET.by(house.toString(), "y:k=h?50;y:0").first(0), due[i]);
        }
        SHEET.due("behind its last minute", SHEET.by("sl50;pm8;ch8;t", "y:k=h?50;y:0").first(0), NONE);
    }

    private static void ticketsByBounds() {
        SHEET.says("TICKETS for a PLAY and w (0 .. 99)", 26);
        ArmchairHouse x = SHEET.by("sl99;pm9;c;t", "y:11");
        SHEET.due("w 99", x.tickets(0, 99, 0), 0);
        SHEET.due("its row", x.tickets(0, 99, 1), 0);
        SHEET.due("w 100", x.tickets(0, 100, 0), NONE);
        SHEET.due("w 0", x.tickets(0, 0, 0), 0);
        SHEET.due("w -1", x.tickets(0, -1, 0), NONE);
        SHEET.says("by which each CHAIR FEELS w or more by the PLAY and none is LED OUT", 26);
        x = SHEET.by("sl99;pm9;c;t", "y:10");
        SHEET.due("just w", x.tickets(0, 90, 0), 0);
        SHEET.due("one more", x.tickets(0, 91, 0), NONE);
        SHEET.due("no row of it", x.tickets(0, 91, 1), NONE);
        x = SHEET.by("sl99;pm1;ch1;ch9t1;t;t", "y:h");
        SHEET.due("each chair", x.tickets(0, 1, 0), 0);
        SHEET.due("not one alone", x.tickets(0, 2, 0), NONE);
        SHEET.due("w 0 with nothing", SHEET.by(SIX, "y:0").tickets(0, 0, 0), 0);
        SHEET.due("w 1 with nothing", SHEET.by(SIX, "y:0").tickets(0, 1, 0), NONE);
        // alone 5, which leads out; two have 4 each
        x = SHEET.by("sl5;pm2;c;ct1;t;t", "y:n=1?5;y:8");
        SHEET.due("they must share", x.tickets(0, 0, 0), 1);
        SHEET.due("the least row", x.tickets(0, 0, 1), 0);
        SHEET.due("8 each", x.tickets(0, 8, 0), 1);
        SHEET.due("not 9", x.tickets(0, 9, 0), NONE);
        SHEET.due("led out in the last minute", SHEET.by("sl5;pm2;c;t", "y:k*5").tickets(0, 0, 0), NONE);
        x = SHEET.by("sl5;pm1;c;t;t", "y:5");
        SHEET.due("led out by each", x.tickets(0, 0, 0), NONE);
        x.ill(1);
        SHEET.due("nobody is led out by one that is ill", x.tickets(0, 0, 0), 1);
        SHEET.due("its row", x.tickets(0, 0, 1), 1);
        SHEET.due("but nothing is felt", x.tickets(0, 1, 0), NONE);
    }

    private static void ticketsByRows() {
        SHEET.says("rows of SITTERS by CHAIRS (digits, the first the highest; PRICE does not matter)", 26, 27);
        String backward = "pm1;ch0m0;ch1m0;ch2m0;ch3m0;ch4m0;ch5m0;td5;td4;td3;td2;td1;td0";
        ArmchairHouse x = SHEET.by("sl99p30;" + backward, "y:h=d?5;y:0");
        SHEET.due("all but the last", x.tickets(0, 5, 0), 5);
        SHEET.due("the row", x.tickets(0, 5, 1), 543210);
        SHEET.due("no more than 5", x.tickets(0, 6, 1), NONE);
        SHEET.due("nobody must", x.tickets(0, 0, 0), 0);
        SHEET.due("the row now", x.tickets(0, 0, 1), 0);
        SHEET.due("most", x.most(0, 0), 543210);
        SHEET.due("that", x.most(0, 1), 30);
        x = SHEET.by("sl99;pm1;ch1;ch0;td0;td1", "y:h=d?5;y:0");
        SHEET.due("the first chair's digit is the highest", x.tickets(0, 5, 1), 10);
        SHEET.says("the fewest CHAIRS with another TICKET (of several the least row): how many; the row.", 26);
        x = SHEET.by("sl99;pm1;c;c;t;t;t", "y:n=1?9;y:0");
        SHEET.due("one of two", x.tickets(0, 9, 0), 1);
        SHEET.due("the least of 01, 02, 10, 20", x.tickets(0, 9, 1), 1);
        x = SHEET.by("sl99;pm1;ct2;ct1;t;t;t", "y:1");
        SHEET.due("nobody must", x.tickets(0, 0, 0), 0);
        SHEET.due("not the least row", x.tickets(0, 0, 1), 21);
        x = SHEET.by("sl99;pm1;ct2;ct2;t;t;t", "y:n=1?9;y:0");
        SHEET.due("one of two", x.tickets(0, 9, 0), 1);
        SHEET.due("the least of 02, 12, 20, 21", x.tickets(0, 9, 1), 2);
        x = SHEET.by("sl99;pm1;ct5;ct5;ct5;ct5;ct5;ct5;t;t;t;t;t;t", "y:n=1?9;y:0");
        SHEET.due("five of six", x.tickets(0, 9, 0), 5);
        SHEET.due("the least row", x.tickets(0, 9, 1), 12345);
    }

    private static void most() {
        SHEET.says("MOST for a PLAY: the row by which all together are MOVED most (of several the least): the row; that.", 27);
        ArmchairHouse x = SHEET.by(SIX, "y:0");
        SHEET.due("of all rows the least", x.most(0, 0), 0);
        SHEET.due("nothing", x.most(0, 1), 0);
        x = SHEET.by("sl99;pm1;ct1;c;t;t", "y:5");
        SHEET.due("01 ahead of 10", x.most(0, 0), 1);
        SHEET.due("both alone", x.most(0, 1), 10);
        SHEET.due("one sitter", SHEET.by("sl99;pm1;c;c;t", "y:5").most(0, 1), 4);
        // led out at once by sitter 0; sitter 1 moves by 4 in each of three minutes
        int[] moved = {13, 12, 11};
        int[] row = {0, 0, 1};
        int[] that = {13, 12, 12};
        for (int i = 0; i < 3; i++) {
            x = SHEET.by("sl5;pm3;c;td0;td1", "y:d=1?4;y:" + moved[i]);
            SHEET.due("led out by " + moved[i], x.most(0, 0), row[i]);
            SHEET.due("that", x.most(0, 1), that[i]);
        }
        x = SHEET.by("sl99;pm9;ch0;ch1;ch2;ch3;ch4;ch5;td5;td4;td3;td2;td1;td0", "y:h=d?98;y:0");
        SHEET.due("the row", x.most(0, 0), 543210);
        SHEET.due("that", x.most(0, 1), 6 * 882);
        x = SHEET.by("sl99;pm1;c;t;t", "y:5");
        x.ill(0);
        SHEET.due("from the one that is well", x.most(0, 0), 1);
    }

    private static void howledByBounds() {
        SHEET.says("HOWLED (10 at most)", 28, 43);
        ArmchairHouse x = SHEET.by("sl99;pm3;c;t;td9", "y:d");
        for (int i = 1; i <= 10; i++) {
            SHEET.due("howled " + i, x.howled(0, 0, 0, i == 10 ? 9 : 0, true), i);
        }
        SHEET.due("the tenth counts", x.whose(0), 2);
        SHEET.due("an eleventh", x.howled(0, 0, 0, 10, true), NONE);
        SHEET.due("ten still", x.count(11), 10);
        SHEET.due("it does not count", x.whose(0), 2);
        Sheet.tell(x, 0, "p;c;t");
        SHEET.due("none of another house", x.count(11), 0);
        SHEET.due("the first of it", x.howled(0, 0, 0, 0, true), 1);
        SHEET.says("a CHAIR was MOVED v (0 .. 99) or more in a MINUTE (0 .. 8) of a PLAY, or was not", 28, 29);
        int[] v = {0, 7, 8, 99};
        int[] was = {3, 3, 0, 0};
        for (int i = 0; i < v.length; i++) {
            x = SHEET.by("sl99;pm9;c;t;t", "y:7");
            SHEET.due("was", x.howled(0, 0, 8, v[i], true), 1);
            SHEET.due("moved " + v[i] + " or more", x.whose(0), was[i]);
            x = SHEET.by("sl99;pm9;c;t;t", "y:7");
            SHEET.due("was not", x.howled(0, 0, 8, v[i], false), 1);
            SHEET.due("not moved " + v[i] + " or more", x.whose(0), 3 - was[i]);
        }
        x = SHEET.by("sl99;pm9;c;t", "y:99");
        SHEET.due("99", x.howled(0, 0, 0, 99, true), 1);
        SHEET.due("moved 99 or more", x.whose(0), 1);
        SHEET.due("v 100", x.howled(0, 0, 0, 100, true), NONE);
        SHEET.due("v -1", x.howled(0, 0, 0, -1, true), NONE);
        SHEET.due("minute 8", x.howled(0, 0, 8, 0, true), 2);
        SHEET.due("minute 9", x.howled(0, 0, 9, 0, true), NONE);
        SHEET.due("minute -1", x.howled(0, 0, -1, 0, true), NONE);
        SHEET.says("a MINUTE behind the PLAY: nothing", 28, 29);
        for (int m = 1; m < 9; m++) {
            for (int minute : new int[] {m - 1, m, 8}) {
                for (int sign = 0; sign < 4; sign++) {
                    x = SHEET.by("sl99;pm" + m + ";c;t", "y:7");
                    boolean is = sign < 2;
                    int least = sign % 2;
                    x.howled(0, 0, minute, least, is);
                    boolean howls = minute < m || least == 0;
                    SHEET.due(least + " or more (" + is + ") in minute " + minute + " of " + m, x.whose(0), howls == is ? 1 : 0);
                }
            }
        }
    }

    private static void howledAsSupposed() {
        SHEET.says("(with all TICKETS as now but its own, nobody ILL, none OUT ahead of that MINUTE, EVENING 0", 28, 29);
        int[] v = {6, 7, 12, 13};
        int[] whose = {3, 1, 1, 0};
        for (int i = 0; i < v.length; i++) {
            // alone with sitter 0: 12; with sitter 1, whom chair 1 has: 6
            ArmchairHouse x = SHEET.by("sl99p0;pm1;c;ct1;t;t", "y:12");
            x.howled(0, 0, 0, v[i], true);
            SHEET.due("moved " + v[i], x.whose(0), whose[i]);
            x.ill(0);
            x.ill(1);
            SHEET.due("nobody ill, moved " + v[i], x.whose(0), whose[i]);
            x.change(0, 1);
            SHEET.due("its own ticket, moved " + v[i], x.whose(0), whose[i]);
            x.change(1, 0);
            SHEET.due("the other's ticket, moved " + v[i], x.whose(0), whose[i] == 1 ? 2 : whose[i]);
        }
        for (int least = 5; least < 8; least++) {
            // both are led out in minute 0
            ArmchairHouse x = SHEET.by("sl5;pm3;ch9;ch9;t", "y:n*n*3");
            x.howled(0, 0, 2, least, true);
            SHEET.due("none out, moved " + least, x.whose(0), least < 7 ? 1 : 0);
        }
        for (int least = 3; least < 6; least++) {
            ArmchairHouse x = SHEET.by("sl99;pm1;c;t", "y:e+4");
            x.howled(0, 0, 0, least, true);
            SHEET.due("evening 0, moved " + least, x.whose(0), least < 5 ? 1 : 0);
            x.evening(0);
            x.evening(0);
            SHEET.due("evening 0 still, moved " + least, x.whose(0), least < 5 ? 1 : 0);
        }
    }

    private static void whose() {
        SHEET.says("WHOSE of a CHAIR: SITTERS (bits) by whose TICKET all HOWLED of that CHAIR is so.", 29);
        for (int n = 1; n <= 6; n++) {
            SHEET.due("nothing howled, " + n + " sitters", SHEET.at("p;c" + times(";t", n)).whose(0), (1 << n) - 1);
        }
        ArmchairHouse x = SHEET.by("sl99;pm1;c;c;td0;td1;td2;td3;td4;td5", "y:d+1");
        x.howled(0, 0, 0, 3, true);
        SHEET.due("3 or more", x.whose(0), 60);
        x.howled(0, 0, 0, 6, false);
        SHEET.due("and less than 6", x.whose(0), 28);
        SHEET.due("not of the other", x.whose(1), 63);
        x.howled(1, 0, 0, 6, true);
        // chair 0 shares sitter 0 with it, the others are free
        SHEET.due("the sixth", x.whose(1), 32);
        SHEET.due("the first as it was", x.whose(0), 28);
        x.howled(0, 0, 0, 99, true);
        SHEET.due("nobody", x.whose(0), 0);
    }

    private static void next() {
        SHEET.says("NEXT for a CHAIR and v: 10 times a PLAY and a MINUTE of it by which those of WHOSE by whom it is MOVED v "
            + "or more and the others are least apart in number (of several the least).", 30);
        String law = "y:k=8&f=9?d;y:0";
        ArmchairHouse x = SHEET.by("sl99;pm9;pm9;pm9;pc9m9;c;td0;td9", law);
        SHEET.due("the last of all minutes", x.following(0, 5), 38);
        SHEET.due("just 9", x.following(0, 9), 38);
        SHEET.due("10: nobody, by none", x.following(0, 10), 0);
        SHEET.due("v 0: both, by all", x.following(0, 0), 0);
        SHEET.due("v 99", x.following(0, 99), 0);
        SHEET.due("v 100", x.following(0, 100), NONE);
        SHEET.due("v -1", x.following(0, -1), NONE);
        x = SHEET.by("sl99;pm9;pm9;pm9;pc9m8;c;td0;td9", law);
        SHEET.due("no minute behind the play", x.following(0, 5), 0);
        x = SHEET.by("sl99;pm9;pc9m9;pc9m9;c;td0;td9", law);
        SHEET.due("of several the least", x.following(0, 5), 18);
        x = SHEET.by("sl99;pm3;c;td0;td4;td9", "y:k=0?d;y:k=1?d/9*9;y:0");
        SHEET.due("two and one, one and two", x.following(0, 4), 0);
        x.howled(0, 0, 0, 4, true);
        SHEET.due("one and one", x.following(0, 4), 1);
        x.ill(1);
        x.ill(2);
        SHEET.due("nobody ill", x.following(0, 4), 1);
        x.howled(0, 0, 0, 5, true);
        SHEET.due("one alone", x.following(0, 4), 0);
        SHEET.says("NONE: nobody fits, no such CHAIR, out of bounds.", 30);
        x.howled(0, 0, 2, 1, true);
        SHEET.due("nobody fits", x.following(0, 4), NONE);
        SHEET.due("chair 1", x.following(1, 4), NONE);
        SHEET.due("chair -1", x.following(-1, 4), NONE);
    }

    private static void halves() {
        SHEET.says("HALVES for a sum (0 .. 999) and a PLAY: sets of CHAIRS (bits) that FEEL together just that by the PLAY: "
            + "how many, the i-th (rising).", 31);
        ArmchairHouse x = SHEET.by(SIX, "y:0");
        SHEET.due("every set", x.halves(0, 0, -1), 64);
        for (int i = 0; i < 64; i++) {
            SHEET.due("set " + i, x.halves(0, 0, i), i);
        }
        SHEET.due("no set 64", x.halves(0, 0, 64), NONE);
        SHEET.due("none of 1", x.halves(0, 1, -1), 0);
        SHEET.due("no first of 1", x.halves(0, 1, 0), NONE);
        x = SHEET.by(SIX, "y:1");
        int[] many = {1, 6, 15, 20, 15, 6, 1, 0};
        int[] least = {0, 1, 3, 7, 15, 31, 63, NONE};
        int[] greatest = {0, 32, 48, 56, 60, 62, 63, NONE};
        for (int sum = 0; sum < many.length; sum++) {
            SHEET.due("how many of " + sum, x.halves(0, sum, -1), many[sum]);
            SHEET.due("the first of " + sum, x.halves(0, sum, 0), least[sum]);
            SHEET.due("the last of " + sum, x.halves(0, sum, Math.max(0, many[sum] - 1)), greatest[sum]);
            SHEET.due("none behind it", x.halves(0, sum, many[sum]), NONE);
        }
        x = SHEET.by("sl99;pm9;ch9;ch1t1;t;t", "y:h=9?98;y:13");
        SHEET.due("999", x.halves(0, 999, -1), 1);
        SHEET.due("both", x.halves(0, 999, 0), 3);
        x = SHEET.by("sl99;pm9;ch9;ch1t1;t;t", "y:h=9?98;y:k<1?14;y:13");
        SHEET.due("1000", x.halves(0, 1000, -1), NONE);
        SHEET.due("1000", x.halves(0, 1000, 0), NONE);
        SHEET.due("-1", x.halves(0, -1, -1), NONE);
        SHEET.due("i -2", x.halves(0, 0, -2), NONE);
        x = SHEET.by("sl5;pm3;c;ct1;t;td9", "y:d=9?5;y:4");
        SHEET.due("led out: 5", x.halves(0, 5, 0), 2);
        SHEET.due("with the other", x.halves(0, 17, 0), 3);
    }

    private static void game(ArmchairHouse x, int[][] first, int[][] second) {
        for (int i = 0; i < 2; i++) {
            for (int j = 0; j < 2; j++) {
                SHEET.due("the first by " + i + " and " + j, x.game(0, 1, 0, i, j, 0), first[i][j]);
                SHEET.due("the second by " + i + " and " + j, x.game(0, 1, 0, i, j, 1), second[i][j]);
                SHEET.due("asked the other way", x.game(1, 0, 0, j, i, 0), second[i][j]);
                SHEET.due("asked the other way", x.game(1, 0, 0, j, i, 1), first[i][j]);
            }
        }
    }

    private static void games() {
        SHEET.says("x, y SITTERS of whom each takes a TICKET (the same one, too): what one has: what it FEELS then "
            + "(LED OUT: 0), less PRICE, if it is another one than now.", 32);
        game(SHEET.by("sl10p4;pm2;c;ct1;t;t", "y:8"),
            new int[][] {{8, 16}, {12, 4}}, new int[][] {{4, 16}, {12, 8}});
        // alone 10, which leads out; both share 5
        game(SHEET.by("sl10p4;pm2;c;ct1;t;t", "y:10"),
            new int[][] {{10, 0}, {-4, 6}}, new int[][] {{6, 0}, {-4, 10}});
        game(SHEET.by("sl10p4;pm2;c;ct1;t;t", "y:k*10"),
            new int[][] {{5, 0}, {-4, 1}}, new int[][] {{1, 0}, {-4, 5}});
        game(SHEET.by("sl10p30;pm2;cm0;cm0t1;t;t", "y:8"),
            new int[][] {{8, 16}, {-14, -22}}, new int[][] {{-22, 16}, {-14, 8}});
        game(SHEET.by("sl99p0;pm1;c;ct1;ct1;t;t", "y:12"),
            new int[][] {{6, 12}, {6, 4}}, new int[][] {{6, 6}, {12, 4}});
        ArmchairHouse x = SHEET.by("sl10p4;pm2;c;ct1;t;t", "y:10");
        x.ill(0);
        SHEET.due("ill", x.game(0, 1, 0, 0, 1, 0), 0);
        SHEET.due("ill, for a price", x.game(0, 1, 0, 1, 0, 1), -4);
    }

    private static void rests() {
        SHEET.says("RESTS: 10 times x and y by which neither has more by another SITTER: how many, the i-th (rising).", 33);
        ArmchairHouse x = SHEET.by("sl99p0;pm1;c;c;t;t;t;t;t;t", "y:0");
        SHEET.due("all are alike", x.rests(0, 1, 0, -1), 36);
        for (int i = 0; i < 36; i++) {
            SHEET.due("rest " + i, x.rests(0, 1, 0, i), 10 * (i / 6) + i % 6);
        }
        SHEET.due("no rest 36", x.rests(0, 1, 0, 36), NONE);
        SHEET.due("i -2", x.rests(0, 1, 0, -2), NONE);
        // the first would share, the second would not
        x = SHEET.by("sl99p0;pm1;ch9;ch1t1;t;t", "y:h=9?[n-1]*20;y:n=1?10;y:0");
        SHEET.due("none", x.rests(0, 1, 0, -1), 0);
        SHEET.due("no first", x.rests(0, 1, 0, 0), NONE);
        x = SHEET.by("sl99;pm1;c;c;t", "y:9");
        SHEET.due("one sitter", x.rests(0, 1, 0, -1), 1);
        SHEET.due("that", x.rests(0, 1, 0, 0), 0);
        x = SHEET.by("sl10p4;pm2;c;ct1;t;t", "y:8");
        SHEET.due("apart", x.rests(0, 1, 0, -1), 2);
        SHEET.due("as now", x.rests(0, 1, 0, 0), 1);
        SHEET.due("the other way", x.rests(0, 1, 0, 1), 10);
        SHEET.due("no third", x.rests(0, 1, 0, 2), NONE);
        // a price of 8 is just what the other one gives more: it does not have more
        x = SHEET.by("sl10p8;pm2;c;c;t;t", "y:8");
        SHEET.due("alike by the price", x.rests(0, 1, 0, -1), 3);
        SHEET.due("both stay", x.rests(0, 1, 0, 0), 0);
        SHEET.due("one goes", x.rests(0, 1, 0, 1), 1);
        SHEET.due("the other goes", x.rests(0, 1, 0, 2), 10);
    }

    private static void borne() {
        SHEET.says("BORNE for n (1 .. 4): rows of n PLAYS (again, too) as EVENINGS one behind the other by which nobody is "
            + "LED OUT and all are MOVED most (of several the least): the row, that.", 34);
        String plays = "pa1m1;pa2m1;pa3m1;pa4m1;c;t";
        int[] rows = {3, 33, 333, 3333};
        for (int n = 1; n <= 4; n++) {
            ArmchairHouse x = SHEET.by("sl99;" + plays, "y:f");
            SHEET.due("row of " + n, x.borne(n, 0), rows[n - 1]);
            SHEET.due("moved by " + n, x.borne(n, 1), 4 * n);
            x = SHEET.by("sl4;" + plays, "y:f");
            SHEET.due("row of " + n + ", 4 leads out", x.borne(n, 0), rows[n - 1] / 3 * 2);
            SHEET.due("moved by " + n + ", 4 leads out", x.borne(n, 1), 3 * n);
            x = SHEET.by("sl99;" + plays, "y:4");
            SHEET.due("the least row of " + n, x.borne(n, 0), 0);
            x = SHEET.by("sl1;" + plays, "y:f");
            SHEET.due("no row of " + n, x.borne(n, 0), NONE);
            SHEET.due("nothing by " + n, x.borne(n, 1), NONE);
        }
        ArmchairHouse x = SHEET.by("sl99;" + plays, "y:f");
        for (int n : new int[] {0, 5, -1}) {
            SHEET.due("n " + n, x.borne(n, 0), NONE);
            SHEET.due("n " + n, x.borne(n, 1), NONE);
        }
        x = SHEET.by("sl9;" + plays, "y:e=0?1;y:9");
        SHEET.due("one is borne", x.borne(1, 0), 0);
        SHEET.due("that", x.borne(1, 1), 1);
        SHEET.due("two are not", x.borne(2, 0), NONE);
        SHEET.due("nothing", x.borne(2, 1), NONE);
        x = SHEET.by("sl99;pa1m1;pa2m1;c;t", "y:e*f");
        SHEET.due("evenings behind one another", x.borne(4, 0), 111);
        SHEET.due("that", x.borne(4, 1), 2 + 4 + 6);
        x = SHEET.at("sl9;pa9m1;pa2m1;ch0;td0");
        SHEET.due("the second", x.borne(3, 0), 111);
        x.ill(0);
        SHEET.due("ill on the first evening alone", x.borne(3, 0), 11);
        SHEET.due("that", x.borne(3, 1), 4);
        x = SHEET.by("sl9;pa1m1;pa2m1;ch1;ch9t1;t;t", "y:f=2&h=9?9;y:f");
        SHEET.due("not one is led out", x.borne(1, 0), 0);
        SHEET.due("nothing is borne, but nobody led out", SHEET.by("sl1;p;c;t", "y:0").borne(4, 1), 0);
    }

    private static void meant(int due, int... hearts) {
        StringBuilder house = new StringBuilder("sl1;pm3;t;t;t;t;t;t");
        for (int c = 0; c < hearts.length; c++) {
            house.append(";ch").append(hearts[c]).append("t").append(c);
        }
        ArmchairHouse x = SHEET.by(house.toString(), "y:h");
        for (int minute = 0; minute < 3; minute++) {
            SHEET.due("of " + java.util.Arrays.toString(hearts) + " in minute " + minute, x.meant(0, minute), due);
        }
        SHEET.due("minute 3", x.meant(0, 3), NONE);
        SHEET.due("minute -1", x.meant(0, -1), NONE);
    }

    private static void meant() {
        SHEET.says("the fewest CHAIRS (bits; of several the least bits) by which all together are MOVED half or more of what "
            + "all CHAIRS are, cut, in that MINUTE (none OUT).", 35);
        meant(0, 0);
        meant(0, 1);
        meant(1, 2);
        meant(1, 9);
        meant(0, 0, 0, 0, 0, 0, 0);
        meant(0, 0, 0, 0, 0, 0, 1);
        meant(32, 0, 0, 0, 0, 0, 2);
        meant(1, 1, 1);
        meant(2, 1, 4);
        meant(1, 2, 3);
        meant(2, 1, 3);
        meant(6, 1, 2, 3, 4);
        meant(3, 1, 1, 1, 1);
        meant(7, 1, 1, 1, 1, 1, 1);
        meant(3, 1, 1, 1, 1, 1);
        meant(32, 1, 1, 1, 1, 1, 5);
        meant(48, 1, 1, 1, 1, 2, 2);
        ArmchairHouse x = SHEET.by("sl99;pm1;ch4;ch4;ch3t1;t;t", "y:h");
        SHEET.due("2, 2 and 3", x.meant(0, 0), 4);
        x.ill(1);
        SHEET.due("2, 2 and nothing", x.meant(0, 0), 1);
        x.ill(0);
        SHEET.due("nothing", x.meant(0, 0), 0);
        for (int m = 1; m <= 9; m++) {
            x = SHEET.by("sl1;pm" + m + ";ch1;ch2t1;t;t", "y:k=" + (m - 1) + "?h*2;y:0");
            SHEET.due("the last minute of " + m, x.meant(0, m - 1), 2);
            SHEET.due("the first minute of " + m, x.meant(0, 0), m == 1 ? 2 : 0);
            SHEET.due("no minute " + m, x.meant(0, m), NONE);
        }
    }

    private static void odds() {
        SHEET.says("ODDS for a CHAIR, a PLAY, a chance (0 .. 100): its SITTER falls ILL by chance, else all goes as now: "
            + "of 100 those by which it is MOVED in some MINUTE and not LED OUT.", 36);
        ArmchairHouse x = SHEET.by("sl10;pm2;c;t", "y:9");
        for (int chance = 0; chance <= 100; chance++) {
            SHEET.due("chance " + chance, x.odds(0, 0, chance), 100 - chance);
        }
        SHEET.due("chance 101", x.odds(0, 0, 101), NONE);
        SHEET.due("chance -1", x.odds(0, 0, -1), NONE);
        SHEET.due("led out", SHEET.by("sl10;pm2;c;t", "y:10").odds(0, 0, 0), 0);
        SHEET.due("led out in the last minute", SHEET.by("sl10;pm2;c;t", "y:k*10").odds(0, 0, 0), 0);
        SHEET.due("moved in the last minute", SHEET.by("sl10;pm9;c;t", "y:k=8?1;y:0").odds(0, 0, 0), 100);
        SHEET.due("moved in no minute", SHEET.by("sl10;pm8;c;t", "y:k=8?1;y:0").odds(0, 0, 0), 0);
        SHEET.due("1 by two is nothing", SHEET.by("sl10;pm1;c;c;t", "y:1").odds(0, 0, 0), 0);
        x.ill(0);
        SHEET.due("ill now", x.odds(0, 0, 0), 0);
    }

    // ---- what stands out

    /** A HOUSE whose clauses of one kind have these numbers. */
    private static ArmchairHouse row(String kind, String others, int... numbers) {
        StringBuilder house = new StringBuilder(others);
        for (int number : numbers) {
            house.append(";").append(kind).append(number);
        }
        return SHEET.at(house.toString());
    }

    private static int[][] rows(int low, int high) {
        return new int[][] {{high, low, low, low, low, low}, {low, low, low, low, low, high}, {low, low, high, high, low, high},
            {low, low, low, low, low, low}, {high, high, high, high, high, high}, {low, high, low + 1, low, high, low},
            {low}, {high}};
    }

    private static void chairsThatStandOut() {
        int[] due = {0, 5, 2, 0, 0, 1, 0, 0};
        SHEET.says("SOFTEST (HEART), RICHEST (MONEY), SADDEST (TEARS): the CHAIR with the most (of several the lowest).", 37);
        for (int i = 0; i < due.length; i++) {
            SHEET.due("softest of row " + i, row("ch", "p;t", rows(0, 9)[i]).all(0), due[i]);
            SHEET.due("richest of row " + i, row("cm", "p;t", rows(0, 99)[i]).all(1), due[i]);
            ArmchairHouse x = row("ch", "sl99;pm1;t", rows(0, 9)[i]);
            Sheet.tell(x, 1, "y:h*6");
            x.law(0);
            SHEET.due("saddest of none", x.all(2), 0);
            x.evening(0);
            SHEET.due("saddest of row " + i, x.all(2), due[i]);
        }
        SHEET.says("CANPAY: CHAIRS (bits) with MONEY for another TICKET.", 37);
        SHEET.due("price 5", row("cm", "sp5;p;t;t", 4, 5, 6, 0, 99, 5).all(6), 2 + 4 + 16 + 32);
        SHEET.due("price 0", row("cm", "sp0;p;t;t", 0, 0, 0, 0, 0, 0).all(6), 63);
        SHEET.due("price 30", row("cm", "sp30;p;t;t", 29, 29, 29, 29, 29, 29).all(6), 0);
        ArmchairHouse x = row("cm", "sp30;p;t;t", 30, 29);
        SHEET.due("just", x.all(6), 1);
        x.price(29);
        SHEET.due("by the price now", x.all(6), 3);
        x.change(0, 1);
        SHEET.due("no more", x.all(6), 2);
        SHEET.says("HOUSE of a SITTER: CHAIRS (bits) with its TICKET.", 39);
        x = row("ct", "sp0;p;t;t;t;t;t;t", 0, 0, 0, 0, 0, 0);
        SHEET.due("all", x.house(0), 63);
        SHEET.due("none", x.house(5), 0);
        x.change(5, 5);
        SHEET.due("five", x.house(0), 31);
        SHEET.due("the sixth", x.house(5), 32);
    }

    private static void sittersAndPlays() {
        int[] due = {0, 5, 2, 0, 0, 1, 0, 0};
        SHEET.says("DULLEST: the SITTER.", 37);
        for (int i = 0; i < due.length; i++) {
            SHEET.due("dullest of row " + i, row("td", "p;c", rows(0, 9)[i]).all(3), due[i]);
        }
        SHEET.says("IDLE: SITTERS (bits) of whom nobody has a TICKET.", 37);
        SHEET.says("TWICE: SITTERS (bits) of whom two CHAIRS or more have a TICKET.", 37);
        int[][] tickets = {{0}, {5}, {0, 0}, {5, 5}, {0, 1, 2, 3, 4, 5}, {0, 0, 1, 1, 2, 3}, {4, 4, 4, 4, 4, 4}, {5, 0, 5, 0, 5, 0}};
        int[] idle = {62, 31, 62, 31, 0, 48, 47, 30};
        int[] twice = {0, 0, 1, 32, 0, 3, 16, 33};
        for (int i = 0; i < tickets.length; i++) {
            ArmchairHouse x = row("ct", "p;t;t;t;t;t;t", tickets[i]);
            SHEET.due("idle of row " + i, x.all(4), idle[i]);
            SHEET.due("twice of row " + i, x.all(7), twice[i]);
        }
        SHEET.says("LONG: the PLAY with the most FEELING in all its MINUTES (of several the lowest).", 37);
        String[] plays = {"pa9m1;pa1b1c1m9", "pa8m1;pa1b1c1m9", "pa0b0c0m9;pa0b0c0m1", "pm1;pm2;pm2;pm1",
            "pa9b9c9m8;p;p;pa9b9c9m9", "pa9b0c0m3;pa9b0c0m4", "pa0b9c9m1;pa1b0c0m1"};
        int[] longest = {0, 1, 0, 1, 3, 1, 1};
        for (int i = 0; i < plays.length; i++) {
            SHEET.due("long of " + plays[i], SHEET.at("c;t;" + plays[i]).all(5), longest[i]);
        }
        SHEET.says("PEAK of a PLAY: its MINUTE with the most FEELING (of several the earliest). SUM of a PLAY: that FEELING.", 38);
        String[] peaks = {"pa1b2c3m9", "pa3b3c3m9", "pa0b0c9m2", "pa0b0c9m3", "pa0b9c9m1", "pa0b0c0m9", "pa9b9c9m9", "pa1b9c9m2"};
        int[] peak = {2, 0, 0, 2, 0, 0, 0, 1};
        int[] sum = {18, 27, 0, 9, 0, 0, 81, 10};
        for (int i = 0; i < peaks.length; i++) {
            ArmchairHouse x = SHEET.at("c;t;" + peaks[i]);
            SHEET.due("peak of " + peaks[i], x.peak(0, 0), peak[i]);
            SHEET.due("sum of " + peaks[i], x.peak(0, 1), sum[i]);
        }
    }

    private static void hardens() {
        SHEET.says("HARDENS of a CHAIR for a PLAY: the greatest HEART (0 .. 9) with which it would not be LED OUT.", 40);
        // FEELING 3 and HEART, less 2: led out from l - 1 on
        int[] leads = {1, 2, 3, 9, 10, 11, 99};
        int[] due = {NONE, 0, 1, 7, 8, 9, 9};
        for (int i = 0; i < leads.length; i++) {
            ArmchairHouse x = SHEET.at("sl" + leads[i] + ";p;c;t");
            SHEET.due("by " + leads[i], x.hardens(0, 0), due[i]);
            x.heart(0, 0);
            SHEET.due("whatever it is now, by " + leads[i], x.hardens(0, 0), due[i]);
            x.heart(0, 9);
            SHEET.due("whatever it is now, by " + leads[i], x.hardens(0, 0), due[i]);
            SHEET.due("the heart stays", Sheet.chair(x, 0, 0), 9);
        }
        SHEET.due("none below it", SHEET.by("sl9;p;c;t", "y:h=6?1;y:9").hardens(0, 0), 6);
        SHEET.due("9 alone", SHEET.by("sl9;p;c;t", "y:h=9?1;y:9").hardens(0, 0), 9);
        SHEET.due("0 alone", SHEET.by("sl9;p;c;t", "y:h=0?1;y:9").hardens(0, 0), 0);
        SHEET.due("in the last minute", SHEET.by("sl9;pm9;c;t", "y:k=8?h;y:0").hardens(0, 0), 8);
        // the other one is led out at once; then 2 by HEART
        ArmchairHouse x = SHEET.by("sl9;pm2;ch5;ch9;t", "y:k=0&h=9?18;y:h*2");
        SHEET.due("alone from minute 1 on", x.hardens(0, 0), 4);
        x.ill(0);
        SHEET.due("by one that is ill", x.hardens(0, 0), 9);
    }
}
