/** The boundary sentences of Terms, part 1: what is a HOUSE, a LAW, a SEASON, and where a FAULT is. */
public final class TextEdgesTest {
    private static final int NONE = Sheet.NONE;
    private static final int HOUSE = 0;
    private static final int LAW = 1;
    private static final int SEASON = 2;
    private static final Sheet SHEET = new Sheet();

    public static void main(String[] args) {
        clausesOfHouses();
        itemsOfHouses();
        numbersOfHouses();
        manyOfHouses();
        clausesOfLaws();
        signsOfLaws();
        depthOfLaws();
        numbersInLaws();
        worthOfLaws();
        stepsOfSeasons();
        blanks();
        endsTooEarly();
        whatIsNotThere();
        SHEET.finish(4, 5);
    }

    /** Behind a beginning that can go on: just the bytes of goOn can follow; any other one is the FAULT. */
    private static void follow(int sort, String beginning, String goOn) {
        for (char sign = 1; sign < 256; sign++) {
            String text = beginning + sign;
            boolean goes = SHEET.fault(sort, text) != beginning.length();
            SHEET.due("'" + beginning + "' goes on with byte " + (int) sign, goes, goOn.indexOf(sign) >= 0);
        }
    }

    private static String times(String part, int n) {
        return part.repeat(n);
    }

    private static void clausesOfHouses() {
        SHEET.says("CLAUSES with ; between: s (its RULES; one at most), p (a PLAY; 1 .. 4), c (a CHAIR; 1 .. 6, at home), "
            + "t (a SITTER; 1 .. 6), in any order", 4, 5);
        String[] kinds = {"s", "p", "c", "t"};
        for (int a = 0; a < 4; a++) {
            for (int b = 0; b < 4; b++) {
                for (int c = 0; c < 4; c++) {
                    int d = 6 - a - b - c;
                    if (a != b && a != c && b != c) {
                        SHEET.whole(HOUSE, kinds[a] + ";" + kinds[b] + ";" + kinds[c] + ";" + kinds[d]);
                    }
                }
            }
        }
        SHEET.whole(HOUSE, "t;c;p");
        for (int n = 1; n <= 6; n++) {
            ArmchairHouse x = SHEET.at("p;" + times("c;", n) + "t");
            SHEET.due("chairs", x.count(0), n);
            x = SHEET.at("p;" + times("t;", n) + "c");
            SHEET.due("sitters", x.count(1), n);
            if (n <= 4) {
                x = SHEET.at("t;" + times("p;", n) + "c");
                SHEET.due("plays", x.count(2), n);
            }
        }
        ArmchairHouse full = SHEET.at("ct5;" + times("t;", 6) + times("p;", 4) + times("c;", 4) + "s;ct4");
        SHEET.due("all six chairs", full.count(0), 6);
        SHEET.due("all six sitters", full.count(1), 6);
        SHEET.due("all four plays", full.count(2), 4);
        SHEET.due("the sixth sitter's chair", full.house(5), 1);
        SHEET.due("the sixth chair", full.house(4), 32);
        follow(HOUSE, "", "spct ");
        follow(HOUSE, "p;", "spct ");
        SHEET.wrongAt(HOUSE, "tpc", 1);
        SHEET.wrongAt(HOUSE, "p,c,t", 1);
        SHEET.wrongAt(HOUSE, "p;;c;t", 2);
        SHEET.wrongAt(HOUSE, ";p;c;t", 0);
        SHEET.wrongAt(HOUSE, "p;c;t;", 6);
    }

    private static void itemsOfHouses() {
        SHEET.says("then ITEMS, none or more: a letter, each once at most in a CLAUSE, and a number (one or two digits)", 4, 5);
        follow(HOUSE, "s", "lp; ");
        follow(HOUSE, "p", "abcm; ");
        follow(HOUSE, "c", "htm; ");
        follow(HOUSE, "t", "d; ");
        follow(HOUSE, "sl", "123456789 ");
        follow(HOUSE, "cm", "0123456789 ");
        follow(HOUSE, "sl1", "p; 0123456789");
        follow(HOUSE, "cm9", "ht; 0123456789");
        follow(HOUSE, "pa9", "bcm; ");
        follow(HOUSE, "pa9b09c9", "m; ");
        follow(HOUSE, "pa1b1c1m1", "; ");
        follow(HOUSE, "ch1t0m1", "; 0123456789");
        follow(HOUSE, "td1", "; ");
        SHEET.whole(HOUSE, "sl1p1;pa1b1c1m1;ch1t0m1;td1");
        SHEET.whole(HOUSE, "sp1l1;pm1c1b1a1;cm1t0h1;td1");
        SHEET.whole(HOUSE, "pa1;pa1;ch1;ch1;td1;td1");
        SHEET.says("a letter that was there", 4, 5);
        SHEET.wrongAt(HOUSE, "sl1l1", 3);
        SHEET.wrongAt(HOUSE, "sl1p1l1", 5);
        SHEET.wrongAt(HOUSE, "sp1p", 3);
        for (String letter : new String[] {"a", "b", "c", "m"}) {
            SHEET.wrongAt(HOUSE, "p" + letter + "1" + letter + "1;c;t", 3);
            SHEET.wrongAt(HOUSE, "pa1b1c1m1" + letter, 9);
        }
        for (String letter : new String[] {"h", "t", "m"}) {
            SHEET.wrongAt(HOUSE, "c" + letter + "0 " + letter + "1;p;t;t", 4);
            SHEET.wrongAt(HOUSE, "ch1t0m1" + letter, 7);
        }
        SHEET.wrongAt(HOUSE, "td1d1;p;c", 3);
    }

    /** One ITEM of a HOUSE: what stands ahead of its number and behind it, its bounds, what it is untold. */
    private static void number(String ahead, String behind, int low, int high) {
        for (int v = 0; v < 100; v++) {
            String[] ways = v < 10 ? new String[] {"" + v, "0" + v} : new String[] {"" + v};
            for (String way : ways) {
                String text = ahead + way + behind;
                if (v >= low && v <= high) {
                    SHEET.whole(HOUSE, text);
                } else {
                    SHEET.wrongAt(HOUSE, text, ahead.length() + way.length() - 1);
                    SHEET.wrongAt(HOUSE, ahead + way, ahead.length() + way.length() - 1);
                    SHEET.wrongAt(HOUSE, ahead + way + " " + behind, ahead.length() + way.length() - 1);
                }
            }
        }
    }

    private static void thirdDigits(String ahead, String behind) {
        for (int v = 0; v < 100; v++) {
            String two = v < 10 ? "0" + v : "" + v;
            SHEET.wrongAt(HOUSE, ahead + two + "0" + behind, ahead.length() + 2);
            SHEET.wrongAt(HOUSE, ahead + two + "9", ahead.length() + 2);
            SHEET.wrongAt(HOUSE, ahead + two + "11" + behind, ahead.length() + 2);
        }
    }

    private static void numbersOfHouses() {
        String none = "p;c;t";
        SHEET.says("l how much FEELING in one MINUTE LEADS one OUT (1 .. 99; 12 without)", 4, 5, 6);
        number("sl", ";p;c;t", 1, 99);
        SHEET.due("without", SHEET.at(none).rule(0), 12);
        SHEET.due("without, in an s", SHEET.at("sp1;p;c;t").rule(0), 12);
        SHEET.due("1", SHEET.at("sl1;p;c;t").rule(0), 1);
        SHEET.due("99", SHEET.at("sl99;p;c;t").rule(0), 99);
        SHEET.says("p PRICE of a ticket (0 .. 30; 5)", 4, 5, 6);
        number("sp", ";p;c;t", 0, 30);
        SHEET.due("without", SHEET.at(none).rule(1), 5);
        SHEET.due("0", SHEET.at("sp0;p;c;t").rule(1), 0);
        SHEET.due("30", SHEET.at("sp30;p;c;t").rule(1), 30);
        SHEET.says("a, b, c FEELING in its MINUTES 0, 1, 2 (0 .. 9; 3 each)", 4, 5, 7);
        for (int i = 0; i < 3; i++) {
            String letter = "abc".substring(i, i + 1);
            number("p" + letter, ";c;t", 0, 9);
            SHEET.due("without " + letter, SHEET.at(none).drama(0, i), 3);
            SHEET.due("0", SHEET.at("p" + letter + "0;c;t").drama(0, i), 0);
            SHEET.due("9", SHEET.at("p" + letter + "9;c;t").drama(0, i), 9);
            SHEET.due("another play", SHEET.at("p" + letter + "9;p;c;t").drama(1, i), 3);
        }
        SHEET.says("m how many MINUTES it has (1 .. 9; 3; MINUTE k feels as k modulo 3)", 4, 5, 7, 24, 38);
        number("pm", ";c;t", 1, 9);
        SHEET.due("without", SHEET.at(none).drama(0, 3), 3);
        int[] sums = {1, 3, 7, 8, 10, 14, 15, 17, 21};
        for (int m = 1; m <= 9; m++) {
            ArmchairHouse x = SHEET.at("pa1b2c4m" + m + ";ch0;td0");
            SHEET.due("m" + m, x.drama(0, 3), m);
            SHEET.due("sum of " + m, x.peak(0, 1), sums[m - 1]);
            SHEET.due("feels of " + m, x.feels(0, 0, 0), sums[m - 1]);
            SHEET.due("peak of " + m, x.peak(0, 0), Math.min(m - 1, 2));
        }
        SHEET.says("h HEART (0 .. 9; 5)", 4, 5, 8);
        number("ch", ";p;t", 0, 9);
        SHEET.due("without", Sheet.chair(SHEET.at(none), 0, 0), 5);
        SHEET.due("0", Sheet.chair(SHEET.at("ch0;p;t"), 0, 0), 0);
        SHEET.due("9", Sheet.chair(SHEET.at("ch9;p;t"), 0, 0), 9);
        SHEET.says("t the SITTER of its TICKET (0 .. 5; 0)", 4, 5, 8);
        number("ct", ";p;t;t;t;t;t;t", 0, 5);
        SHEET.due("without", Sheet.chair(SHEET.at("c;p;t;t;t;t;t;t"), 0, 1), 0);
        SHEET.due("5", Sheet.chair(SHEET.at("ct5;p;t;t;t;t;t;t"), 0, 1), 5);
        SHEET.says("m MONEY (0 .. 99; 20)", 4, 5, 8);
        number("cm", ";p;t", 0, 99);
        SHEET.due("without", Sheet.chair(SHEET.at(none), 0, 2), 20);
        SHEET.due("0", Sheet.chair(SHEET.at("cm0;p;t"), 0, 2), 0);
        SHEET.due("99", Sheet.chair(SHEET.at("cm99;p;t"), 0, 2), 99);
        SHEET.says("d DULLNESS (0 .. 9; 2)", 4, 5, 9);
        number("td", ";p;c", 0, 9);
        SHEET.due("without", SHEET.at(none).sitter(0, 0), 2);
        SHEET.due("0", SHEET.at("td0;p;c").sitter(0, 0), 0);
        SHEET.due("9", SHEET.at("td9;p;c").sitter(0, 0), 9);
        SHEET.says("a third digit (whatever stands ahead of it; a fifth one in a LAW) itself", 4, 5);
        for (String ahead : new String[] {"sl", "sp", "pa", "pb", "pc", "pm", "ch", "ct", "cm", "td", "pa1b1m"}) {
            thirdDigits(ahead, ";p;c;t");
        }
        SHEET.wrongAt(LAW, "y:00000", 6);
        SHEET.wrongAt(LAW, "y:12345", 6);
        SHEET.wrongAt(LAW, "y:123456", 6);
        SHEET.wrongAt(LAW, "y:f=99999?1", 8);
        SHEET.wrongAt(LAW, "y:f=1?[10000]", 11);
        SHEET.says("a number out of bounds is wrong at its last digit", 4, 5);
        SHEET.wrongAt(HOUSE, "pm0", 2);
        SHEET.wrongAt(HOUSE, "pm00", 3);
        SHEET.wrongAt(HOUSE, "pm 10;c;t", 4);
        SHEET.wrongAt(HOUSE, "sl0;p;c;t", 2);
        SHEET.wrongAt(HOUSE, "sp99x", 3);
        SHEET.wrongAt(HOUSE, "ct6", 2);
        SHEET.wrongAt(HOUSE, "ct06;x", 3);
    }

    private static void manyOfHouses() {
        SHEET.says("a second s", 4, 5);
        SHEET.wrongAt(HOUSE, "s;s", 2);
        SHEET.wrongAt(HOUSE, "sl1;p;c;t; s;", 11);
        follow(HOUSE, "s;", "pct ");
        SHEET.says("a fifth p", 4, 5);
        SHEET.wrongAt(HOUSE, times("p;", 5) + "c;t", 8);
        SHEET.wrongAt(HOUSE, "c;t;" + times("p;", 4) + "p", 12);
        follow(HOUSE, times("p;", 4), "sct ");
        follow(HOUSE, times("p;", 3), "spct ");
        SHEET.says("a seventh c or t", 4, 5);
        SHEET.wrongAt(HOUSE, times("c;", 7) + "p;t", 12);
        SHEET.wrongAt(HOUSE, times("t;", 6) + " t", 13);
        SHEET.wrongAt(HOUSE, times("c;t;", 6) + "p;t", 26);
        SHEET.wrongAt(HOUSE, times("c;t;", 6) + "p;c", 26);
        follow(HOUSE, times("c;", 6), "spt ");
        follow(HOUSE, times("c;", 5), "spct ");
        follow(HOUSE, times("t;", 6), "spc ");
        follow(HOUSE, times("t;", 5), "spct ");
        String full = times("p;", 4) + times("c;", 6) + times("t;", 6) + "s";
        SHEET.whole(HOUSE, full);
        SHEET.wrongAt(HOUSE, full + ";", full.length() + 1);
        follow(HOUSE, full + ";", " ");
        SHEET.says("without a PLAY, a CHAIR or a SITTER", 4, 5);
        SHEET.wrongAt(HOUSE, "c;t", 3);
        SHEET.wrongAt(HOUSE, "p;t", 3);
        SHEET.wrongAt(HOUSE, "p;c", 3);
        SHEET.wrongAt(HOUSE, "s", 1);
        SHEET.wrongAt(HOUSE, "s;" + times("p;", 4) + times("c;", 5) + "c  ", 23);
        SHEET.says("with a TICKET of a SITTER that is not told", 4, 5);
        for (int t = 0; t < 6; t++) {
            for (int told = 1; told <= 6; told++) {
                String text = "p;c;ct" + t + times(";t", told);
                if (t < told) {
                    SHEET.whole(HOUSE, text);
                } else {
                    SHEET.wrongAt(HOUSE, text, text.length());
                    SHEET.wrongAt(HOUSE, text + " ", text.length() + 1);
                }
            }
        }
    }

    private static void clausesOfLaws() {
        SHEET.says("CLAUSES with ; between, one at least: y, : , perhaps CONDITION ?, then SUM.", 4, 5);
        SHEET.wrongAt(LAW, "", 0);
        SHEET.whole(LAW, "y:1");
        SHEET.whole(LAW, "y:1=1?1");
        SHEET.wrongAt(LAW, ";", 0);
        SHEET.wrongAt(LAW, "y:1;", 4);
        SHEET.wrongAt(LAW, "y:1;;y:1", 4);
        SHEET.wrongAt(LAW, "y:1y:1", 3);
        SHEET.whole(LAW, times("y:1;", 59) + "y:12");
        SHEET.wrongAt(LAW, times("y:1;", 60), 240);
        follow(LAW, "", "y ");
        follow(LAW, "y", ": ");
        follow(LAW, "y:1;", "y ");
        follow(LAW, "y:1=1?1", "+-*/; 0123456789");
        follow(LAW, "y:1=1?", "fhdnke[ 0123456789");
        follow(LAW, "y:1=1?[1]", "+-*/; ");
        SHEET.says("LAWS (4 at most)", 5, 10, 43);
        ArmchairHouse x = new ArmchairHouse();
        for (int i = 0; i < 4; i++) {
            SHEET.due("count(3)", x.count(3), i);
            SHEET.due("law " + i, Sheet.tell(x, LAW, "y:" + i), i);
        }
        SHEET.due("a fifth", Sheet.tell(x, LAW, "y:4"), NONE);
        SHEET.due("count(3)", x.count(3), 4);
        SHEET.due("its tape stays", x.count(5), 3);
        SHEET.due("it has no fault", x.fault(LAW), NONE);
        SHEET.due("law(3)", x.law(3), true);
        SHEET.due("law(4)", x.law(4), false);
    }

    private static void signsOfLaws() {
        SHEET.says("CONDITION: TRUTHS with | between; TRUTH: UNITS with & between; UNIT: ! UNIT, ( CONDITION ), "
            + "or SUM, one of = < >, SUM.", 4, 5);
        follow(LAW, "y:f=1", "+-*/&|? 0123456789");
        follow(LAW, "y:f<h", "+-*/&|? ");
        follow(LAW, "y:f>[1]", "+-*/&|? ");
        follow(LAW, "y:f=1&", "!([fhdnke 0123456789");
        follow(LAW, "y:f=1|", "!([fhdnke 0123456789");
        follow(LAW, "y:f=1&h", "+-*/=<> ");
        follow(LAW, "y:f=", "[fhdnke 0123456789");
        follow(LAW, "y:f=1&h>", "[fhdnke 0123456789");
        follow(LAW, "y:!", "!([fhdnke 0123456789");
        follow(LAW, "y:!f", "+-*/=<> ");
        follow(LAW, "y:!f=1", "+-*/&|? 0123456789");
        follow(LAW, "y:(", "!([fhdnke 0123456789");
        follow(LAW, "y:(f", "+-*/=<> ");
        follow(LAW, "y:(f=1", "+-*/&|) 0123456789");
        follow(LAW, "y:(f=1)", "&|? ");
        follow(LAW, "y:((f=1)", "&|) ");
        follow(LAW, "y:(f=1&(h=2)", "&|) ");
        follow(LAW, "y:!(f=1)", "&|? ");
        SHEET.wrongAt(LAW, "y:f=h=d?1", 5);
        SHEET.wrongAt(LAW, "y:(f=1)=1?1", 7);
        SHEET.wrongAt(LAW, "y:f=1&?1", 6);
        SHEET.wrongAt(LAW, "y:|f=1?1", 2);
        SHEET.says("(A CLAUSE that goes on with ! or ( behind its : has a CONDITION.)", 4, 5);
        SHEET.wrongAt(LAW, "y:!1", 4);
        SHEET.wrongAt(LAW, "y:!1;y:1", 4);
        SHEET.wrongAt(LAW, "y:(1)", 4);
        SHEET.wrongAt(LAW, "y:(1+2)*3", 6);
        SHEET.wrongAt(LAW, "y:(1=1)", 7);
        SHEET.wrongAt(LAW, "y:(1=1);y:1", 7);
        SHEET.whole(LAW, "y:(1=1)?1");
        SHEET.whole(LAW, "y:!1=1?1");
        SHEET.says("SUM: TERMS with + or - between; TERM: ATOMS with * or / between; ATOM: a number (1 to 4 digits), "
            + "a letter (f h d n k e), [ SUM ].", 4, 5);
        follow(LAW, "y:", "!([fhdnke 0123456789");
        follow(LAW, "y:f", "+-*/=<>; ");
        follow(LAW, "y:1", "+-*/=<>; 0123456789");
        follow(LAW, "y:1234", "+-*/=<>; ");
        follow(LAW, "y:f+", "[fhdnke 0123456789");
        follow(LAW, "y:f*", "[fhdnke 0123456789");
        follow(LAW, "y:[", "[fhdnke 0123456789");
        follow(LAW, "y:[f", "+-*/] ");
        follow(LAW, "y:[f]", "+-*/=<>; ");
        follow(LAW, "y:[[f]", "+-*/] ");
        for (String number : new String[] {"0", "9", "00", "99", "000", "999", "0000", "9999"}) {
            SHEET.whole(LAW, "y:" + number);
            SHEET.whole(LAW, "y:" + number + "=" + number + "?" + number);
        }
        SHEET.wrongAt(LAW, "y:-1", 2);
        SHEET.wrongAt(LAW, "y:1++1", 4);
        SHEET.wrongAt(LAW, "y:[]", 3);
    }

    private static void depthOfLaws() {
        SHEET.says("At most six of ( [ ! within one another.", 4, 5);
        // all rows of ( and !, then [, that open six
        for (int brackets = 0; brackets <= 6; brackets++) {
            for (int row = 0; row < 1 << 6 - brackets; row++) {
                StringBuilder opens = new StringBuilder();
                StringBuilder rounds = new StringBuilder();
                for (int i = 0; i < 6 - brackets; i++) {
                    boolean round = (row >> i & 1) != 0;
                    opens.append(round ? '(' : '!');
                    rounds.append(round ? ")" : "");
                }
                boolean condition = brackets < 6;
                String text = "y:" + opens + times("[", brackets) + "1" + times("]", brackets)
                    + (condition ? "=1" + rounds + "?1" : "");
                SHEET.whole(LAW, text);
            }
        }
        SHEET.whole(LAW, "y:[[[[[[1]]]]]]+[[[[[[2]]]]]]*[[[[[[3]]]]]]");
        SHEET.whole(LAW, "y:!!!!!!1=1&!!!!!!1=1|!!!!!!1=1?[[[[[[3]]]]]]");
        SHEET.whole(LAW, "y:((((((1=1))))))&((((((1=1))))))?1;y:[[[[[[3]]]]]]");
        SHEET.whole(LAW, "y:!!!!!(1=1)&[[[[[[1]]]]]]=1?1");
        SHEET.says("a seventh of ( [ ! in a LAW at it", 4, 5);
        for (int brackets = 0; brackets <= 6; brackets++) {
            for (int row = 0; row < 1 << 6 - brackets; row++) {
                StringBuilder opens = new StringBuilder("y:");
                for (int i = 0; i < 6 - brackets; i++) {
                    opens.append((row >> i & 1) != 0 ? '(' : '!');
                }
                opens.append(times("[", brackets));
                SHEET.wrongAt(LAW, opens + "[", 8);
                SHEET.wrongAt(LAW, opens + "(", 8);
                SHEET.wrongAt(LAW, opens + "!", 8);
            }
        }
        SHEET.wrongAt(LAW, "y:!!!!!!1=[1]?1", 10);
        SHEET.wrongAt(LAW, "y:((((((1=1)&([1]=1)))))?1", 14);
        SHEET.wrongAt(LAW, "y:1+[[[[[[[1]]]]]]]", 10);
        SHEET.wrongAt(LAW, "y:1=1?[[[[[[[1", 12);
    }

    /** WORTH of a LAW in MINUTE 0 of EVENING 0: f 3, h 5, d 2, n 1. */
    private static void worth(String law, int want) {
        SHEET.due("worth of " + law, SHEET.by("sl99;pa3m1;ch5;td2", law).feels(0, 0, 0), want);
    }

    private static void numbersInLaws() {
        SHEET.says("Behind each sign numbers are within -1,000,000 .. 1,000,000", 10, 24);
        worth("y:1000*1000-9999*100-50", 50);
        worth("y:1000*1000-1-9999*100-50", 49);
        worth("y:1000*1000+9-9999*100-50", 50);
        worth("y:1000*1000*2-9999*100-50", 50);
        worth("y:9999*9999-9999*100-50", 50);
        worth("y:[9999*9999+9]*1-9999*100-50", 50);
        worth("y:9999*100+9999-9999*100-50", 50);
        worth("y:0-1000*1000+9999*100+150", 50);
        worth("y:1-1000*1000+9999*100+150", 51);
        worth("y:0-1000*1000-9+9999*100+150", 50);
        worth("y:[0-9999]*9999+9999*100+150", 50);
        worth("y:9999*[0-9999]+9999*100+150", 50);
        worth("y:[0-9999]*[0-9999]-9999*100-50", 50);
        worth("y:[0-9999]*100-9999+9999*100+150", 50);
        worth("y:9999*9999/9999", 99);
        worth("y:9999*9999/1000/20", 50);
        worth("y:9999*9999=1000*1000?8;y:9", 8);
        worth("y:0-9999*9999=0-1000*1000?8;y:9", 8);
        worth("y:9999*9999>1000*1000-1?8;y:9", 8);
        SHEET.says("/ cuts towards 0, by 0 gives 0.", 10, 24);
        worth("y:7/2", 3);
        worth("y:[0-7]/2+10", 7);
        worth("y:7/[0-2]+10", 7);
        worth("y:[0-7]/[0-2]+10", 13);
        worth("y:1/2", 0);
        worth("y:[0-1]/2+10", 10);
        worth("y:5/0+4", 4);
        worth("y:[0-5]/0+4", 4);
        worth("y:0/0+4", 4);
        worth("y:5/[f-3]+4", 4);
        worth("y:9999*9999/0+4", 4);
        worth("y:5/0*3+7/0/0+4", 4);
        worth("y:5/0=0?8;y:9", 8);
    }

    private static void worthOfLaws() {
        SHEET.says("WORTH of a LAW: the SUM of the first CLAUSE whose CONDITION holds (or has none), 0 without.", 10, 24);
        worth("y:1;y:2", 1);
        worth("y:f=3?1;y:f=3?2;y:3", 1);
        worth("y:f=4?1;y:f=3?2;y:3", 2);
        worth("y:f=4?1;y:f=5?2;y:3", 3);
        worth("y:f=4?1;y:2;y:f=3?3", 2);
        worth("y:f=4?1", 0);
        worth("y:f=4?1;y:f<3?2;y:f>3?3", 0);
        worth("y:f<3?1;y:f>3?2;y:f=3?4", 4);
        worth("y:f<4?1;y:2", 1);
        worth("y:f>2?1;y:2", 1);
        worth(times("y:f=4?1;", 29) + "y:7", 7);
        worth("y:1=1|1=2&1=2?8;y:9", 8);
        worth("y:1=2&1=2|1=1?8;y:9", 8);
        worth("y:(1=1|1=2)&1=2?8;y:9", 9);
        worth("y:!1=2&1=2?8;y:9", 9);
        worth("y:!(1=2&1=2)?8;y:9", 8);
        worth("y:!!!!!!1=1?8;y:9", 8);
        worth("y:!!!!!1=1?8;y:9", 9);
        truths();
        worth("y:2+3*4", 14);
        worth("y:20-5-3", 12);
        worth("y:90/3/3", 10);
        worth("y:2*9/4", 4);
        worth("y:9/4*2", 4);
        worth("y:[2+3]*4", 20);
        worth("y:20-[5-3]", 18);
    }

    private static void truths() {
        SHEET.says("CONDITION: TRUTHS with | between; TRUTH: UNITS with & between; UNIT: ! UNIT, ( CONDITION ), "
            + "or SUM, one of = < >, SUM.", 10, 24);
        String[] truth = {"f=3", "f<4", "f>2", "(f=3)", "!f=4", "!!f<4"};
        String[] lie = {"f=4", "f<3", "f>3", "(f=4)", "!f=3", "!!f>3"};
        for (int i = 0; i < truth.length; i++) {
            worth("y:" + truth[i] + "?8;y:9", 8);
            worth("y:" + lie[i] + "?8;y:9", 9);
            worth("y:!" + truth[i] + "?8;y:9", 9);
            worth("y:!" + lie[i] + "?8;y:9", 8);
            for (int j = 0; j < truth.length; j++) {
                joined(truth[i], truth[j], true, true);
                joined(truth[i], lie[j], true, false);
                joined(lie[i], truth[j], false, true);
                joined(lie[i], lie[j], false, false);
            }
        }
        String[] signs = {"=", "<", ">"};
        for (int left = 0; left < 8; left++) {
            for (int right = 0; right < 8; right++) {
                boolean[] holds = {left == right, left < right, left > right};
                for (int i = 0; i < 3; i++) {
                    int due = holds[i] ? 8 : 9;
                    worth("y:" + left + "+0" + signs[i] + right + "+0?8;y:9", due);
                    worth("y:9-" + (9 - left) + signs[i] + "9-" + (9 - right) + "?8;y:9", due);
                    worth("y:" + left + "*1" + signs[i] + "1*" + right + "?8;y:9", due);
                    worth("y:" + left + "/1-1" + signs[i] + right + "/1-1?8;y:9", due);
                    worth("y:1+" + left + signs[i] + right + "-0-0-0+1&1=1?8;y:9", due);
                    worth("y:2=1|1+" + left + signs[i] + "[" + right + "+1]*1?8;y:9", due);
                }
            }
        }
    }

    private static void joined(String left, String right, boolean leftHolds, boolean rightHolds) {
        int either = leftHolds || rightHolds ? 8 : 9;
        int both = leftHolds && rightHolds ? 8 : 9;
        String[] signs = {"|", "&"};
        int[] due = {either, both};
        for (int i = 0; i < 2; i++) {
            String condition = left + signs[i] + right;
            worth("y:" + condition + "?8;y:9", due[i]);
            worth("y:(" + condition + ")?8;y:9", due[i]);
            worth("y:!(" + condition + ")?8;y:9", 17 - due[i]);
        }
    }

    private static void stepsOfSeasons() {
        SHEET.says("STEPS with ; between, 1 to 16: e and a digit (an EVENING with a PLAY), x and two digits (the CHAIR "
            + "changes its TICKET to the SITTER), i and a digit (a SITTER falls ILL).", 4, 5, 21);
        SHEET.wrongAt(SEASON, "", 0);
        follow(SEASON, "", "exi ");
        follow(SEASON, "e", "0123456789 ");
        follow(SEASON, "i", "0123456789 ");
        follow(SEASON, "x", "0123456789 ");
        follow(SEASON, "x5", "0123456789 ");
        follow(SEASON, "e5", "; ");
        follow(SEASON, "i5", "; ");
        follow(SEASON, "x55", "; ");
        follow(SEASON, "e5;", "exi ");
        for (int n = 1; n <= 16; n++) {
            ArmchairHouse x = new ArmchairHouse();
            StringBuilder text = new StringBuilder("i" + n % 10);
            for (int i = 1; i < n; i++) {
                text.append(i % 2 == 0 ? ";e" + i % 10 : ";x" + i % 10 + (i + 1) % 10);
            }
            SHEET.due("a season of " + n, Sheet.tell(x, SEASON, text.toString()), 0);
            SHEET.due("its first step", x.step(0, 0, 0), 2);
            SHEET.due("its first digit", x.step(0, 0, 1), n % 10);
            for (int i = 1; i < n; i++) {
                SHEET.due("step " + i, x.step(0, i, 0), i % 2);
                SHEET.due("its digit", x.step(0, i, 1), i % 10);
                SHEET.due("its second digit", x.step(0, i, 2), i % 2 == 0 ? NONE : (i + 1) % 10);
            }
            SHEET.due("no step behind", x.step(0, n, 0), Sheet.HIDDEN);
        }
        SHEET.says("the ; ahead of a 17th STEP", 4, 5);
        String sixteen = "x01" + times(";e0", 15);
        SHEET.whole(SEASON, sixteen);
        SHEET.whole(SEASON, sixteen + "  ");
        SHEET.wrongAt(SEASON, sixteen + ";e0", 48);
        SHEET.wrongAt(SEASON, sixteen + ";", 48);
        SHEET.wrongAt(SEASON, sixteen + "  ;e0", 50);
        follow(SEASON, sixteen, " ");
        follow(SEASON, "x01" + times(";e0", 14), "; ");
        SHEET.says("SEASONS (4 at most)", 5, 21, 43);
        ArmchairHouse x = new ArmchairHouse();
        for (int i = 0; i < 4; i++) {
            SHEET.due("count(4)", x.count(4), i);
            SHEET.due("season " + i, Sheet.tell(x, SEASON, "e" + i), i);
        }
        SHEET.due("a fifth", Sheet.tell(x, SEASON, "i7"), NONE);
        SHEET.due("count(4)", x.count(4), 4);
        SHEET.due("its tape stays", x.count(5), 2);
        SHEET.due("it has no fault", x.fault(SEASON), NONE);
        for (int i = 0; i < 4; i++) {
            SHEET.due("season " + i + " is as told", x.step(i, 0, 1), i);
        }
        SHEET.due("no fifth", x.step(4, 0, 0), Sheet.HIDDEN);
    }

    /** With a blank, or another byte that looks like one, at each place. */
    private static void blanksIn(int sort, String text, boolean numbers) {
        for (int i = 0; i <= text.length(); i++) {
            String first = text.substring(0, i);
            String last = text.substring(i);
            boolean within = numbers && i > 0 && i < text.length()
                && Character.isDigit(text.charAt(i - 1)) && Character.isDigit(text.charAt(i));
            if (within) {
                SHEET.wrongAt(sort, first + " " + last, i + 1);
            } else {
                SHEET.whole(sort, first + " " + last);
                SHEET.whole(sort, first + "   " + last);
            }
            for (String other : new String[] {"\t", "\n", "\r", "\u00a0", "_"}) {
                SHEET.wrongAt(sort, first + other + last, i);
            }
        }
    }

    private static void blanks() {
        SHEET.says("Blanks (32) may stand between all signs of these, not within numbers "
            + "(between digits of a STEP they may).", 4, 5);
        blanksIn(HOUSE, "sl12p30;pa09b0c4m5;ch6t0m10;td01", true);
        blanksIn(LAW, "y:!(f+12=3|h>4567)&d<[n*k]?e/10;y:[0-3]*0009", true);
        blanksIn(SEASON, "e1;x02;i3", false);
        ArmchairHouse x = SHEET.at("  s  l 12 p 30 ; p a 09 ; c m 10 ; t d 01  ");
        SHEET.due("l", x.rule(0), 12);
        SHEET.due("p", x.rule(1), 30);
        SHEET.due("a", x.drama(0, 0), 9);
        SHEET.due("m", Sheet.chair(x, 0, 2), 10);
        SHEET.due("d", x.sitter(0, 0), 1);
        SHEET.due("a season", Sheet.tell(x, SEASON, " x  1   2 "), 0);
        SHEET.due("its first digit", x.step(0, 0, 1), 1);
        SHEET.due("its second digit", x.step(0, 0, 2), 2);
        worth("  y  :  !  (  f  =  4  )  ?  [  12  -  2  ]  *  3  ", 30);
    }

    /** A text none of whose beginnings is whole. */
    private static void beginnings(int sort, String text) {
        for (int i = 0; i < text.length(); i++) {
            String beginning = text.substring(0, i);
            SHEET.wrongAt(sort, beginning, i);
            SHEET.wrongAt(sort, beginning + " ", i + 1);
        }
        SHEET.whole(sort, text);
    }

    private static void endsTooEarly() {
        SHEET.says("the length, if it ends too early", 4, 5);
        beginnings(HOUSE, "sl12p30;pa9b0c4m5;ch6t0m10;t");
        beginnings(LAW, "y:!(f+12=3|h>4567)&d<[n*k]?e");
        beginnings(LAW, "y : [ f + h ]");
        beginnings(SEASON, "x01");
        SHEET.wrongAt(SEASON, "e0;", 3);
        SHEET.wrongAt(SEASON, "e0; ", 4);
        SHEET.wrongAt(LAW, "y:1;y:", 6);
        SHEET.wrongAt(HOUSE, "", 0);
        SHEET.wrongAt(HOUSE, "    ", 4);
        SHEET.wrongAt(LAW, "    ", 4);
        SHEET.wrongAt(SEASON, "    ", 4);
        SHEET.wrongAt(HOUSE, "p;c;t;", 6);
        SHEET.wrongAt(HOUSE, "p;c;td", 6);
        SHEET.wrongAt(HOUSE, times(" ", 240), 240);
        SHEET.whole(HOUSE, times(" ", 235) + "p;c;t");
        SHEET.whole(LAW, times(" ", 237) + "y:1");
        SHEET.whole(SEASON, times(" ", 238) + "e1");
        SHEET.wrongAt(LAW, times(" ", 238) + "y:", 240);
        SHEET.says("FAULT: the first byte at which no such TEXT can go on", 4);
        SHEET.wrongAt(HOUSE, "pp;c;c;c;c;c;c;c", 1);
        SHEET.wrongAt(HOUSE, "pa10;s;s", 3);
        SHEET.wrongAt(LAW, "y:1?2;x", 3);
        SHEET.wrongAt(SEASON, "e00;x", 2);
        SHEET.wrongAt(HOUSE, "\u00ff", 0);
        SHEET.wrongAt(HOUSE, "p;c;t\u0080", 5);
        SHEET.wrongAt(HOUSE, "P;c;t", 0);
    }

    private static void whatIsNotThere() {
        SHEET.says("(What a STEP tells that is not there is no FAULT: the STEP can't be.)", 4, 22, 23);
        String[] texts = {"e1", "e9", "x91", "x29", "x20", "i2", "i9"};
        for (String text : texts) {
            SHEET.whole(SEASON, text);
            ArmchairHouse x = SHEET.at("p;c;c;t;t");
            SHEET.due("the season " + text, Sheet.tell(x, SEASON, text), 0);
            SHEET.due("its run", x.run(0, 0), 0);
            SHEET.due("moved by it", x.run(0, 1), 0);
            SHEET.due("done of it", x.perform(0), 0);
            SHEET.due("acts", x.count(13), 0);
        }
        for (String text : new String[] {"e0", "x01", "x11", "i0", "i1"}) {
            ArmchairHouse x = SHEET.at("p;c;c;t;t");
            Sheet.tell(x, SEASON, text);
            SHEET.due("run of " + text, x.run(0, 0), NONE);
            SHEET.due("done of it", x.perform(0), 1);
        }
    }
}
