import java.nio.charset.StandardCharsets;
import java.util.NoSuchElementException;

/** Each promise of the document by hand: ordinary inputs, the edges it names, wrong inputs. */
public final class PromiseTest {
    private static final int HID = -1000000;
    private static final int[] ODD = {-2, 7, 100, 1000, Integer.MIN_VALUE, Integer.MAX_VALUE};
    /** Two plays of 5 and 1 minutes, three chairs of which two share the first of three sitters. */
    private static final String THREE = "sl10p4;pa9b0c4m5;pa1b2c3m1;ch6t0m10;ch3t0m3;ch9t1m50;td1;td4;td0";

    private static int wrong = 0;
    private static int checks = 0;
    private static String promise = "";

    private static void due(String call, long got, long want) {
        checks++;
        if (got != want) {
            wrong++;
            System.out.println("promise " + promise + ": " + call + " answered " + got + ", due is " + want);
        }
    }

    private static void due(String call, boolean got, boolean want) {
        due(call, got ? 1 : 0, want ? 1 : 0);
    }

    private static int put(ArmchairHouse x, String text) {
        byte[] bytes = text.getBytes(StandardCharsets.ISO_8859_1);
        int answer = x.count(5);
        for (int i = 0; i < bytes.length; i += 20) {
            int[] five = new int[5];
            for (int j = 0; j < 20 && i + j < bytes.length; j++) {
                five[j / 4] |= (bytes[i + j] & 255) << 24 - 8 * (j % 4);
            }
            answer = x.feed(five[0], five[1], five[2], five[3], five[4]);
        }
        return answer;
    }

    private static int tell(ArmchairHouse x, int sort, String text) {
        x.end(0);
        put(x, text);
        return x.text(sort);
    }

    private static ArmchairHouse at(String house) {
        ArmchairHouse x = new ArmchairHouse();
        due("the house " + house, tell(x, 0, house) > 0, true);
        return x;
    }

    private static ArmchairHouse by(String house, String law) {
        ArmchairHouse x = at(house);
        due("the law " + law, tell(x, 1, law), 0);
        due("law(0)", x.law(0), true);
        return x;
    }

    private static int chair(ArmchairHouse x, int chair, int what) {
        try {
            return x.chair(chair, what);
        } catch (NoSuchElementException e) {
            return -777;
        }
    }

    public static void main(String[] args) {
        newObject();
        feedAndEnd();
        faultAndText();
        told();
        lawsByHand();
        fluAndEvenings();
        changeAndIll();
        heartGivePrice();
        years();
        undoAndLog();
        seasons();
        feelsAndFirst();
        ticketsAndMost();
        howled();
        halvesAndGames();
        borneAndMeant();
        oddsAndHardens();
        whatStandsOut();
        images();
        counts();
        lateEvenings();
        System.out.println(checks + " checks, " + wrong + " answers are not as due");
        if (wrong != 0) {
            System.exit(1);
        }
    }

    private static void newObject() {
        promise = "1";
        ArmchairHouse x = new ArmchairHouse();
        int[] counts = {0, 0, 0, 0, 0, 0, -1, 0, 0, 0, 1, 0, 0, 0};
        for (int i = 0; i < counts.length; i++) {
            due("count(" + i + ") of a new object", x.count(i), counts[i]);
        }
        due("evening without a house", x.evening(0), -1);
        due("change", x.change(0, 1), -1);
        due("ill", x.ill(0), false);
        due("heart", x.heart(0, 1), -1);
        due("give", x.give(0, 1), -1);
        due("price", x.price(1), -1);
        due("years", x.years(1, 1), -1);
        due("undo", x.undo(), -1);
        due("image", x.image(), -1);
        due("back", x.back(), -1);
        due("chair", chair(x, 0, 0), -777);
        due("a season without a house", tell(x, 2, "e0"), 0);
        due("run without a house", x.run(0, 0), HID);
        due("perform without a house", x.perform(0), -1);
        due("step without a house", x.step(0, 0, 0), 0);
        due("a law without a house", tell(x, 1, "y:1"), 0);
        due("law(0) without a house", x.law(0), true);
        due("the first NONE", ArmchairHouse.NONE, -1);
        due("HIDDEN", ArmchairHouse.HIDDEN, HID);
    }

    private static void feedAndEnd() {
        promise = "2";
        ArmchairHouse x = new ArmchairHouse();
        due("feed of nothing", x.feed(0, 0, 0, 0, 0), 0);
        due("feed leaves 0 out", x.feed(0x00700000, 0x3B, 0x63003B00, 0, 0x74), 5);
        due("the house", x.fault(0), -1);
        due("the highest byte first", x.text(0), 1);
        for (int i = 1; i <= 12; i++) {
            due("feed " + i, x.feed(-1, -1, -1, -1, -1), 20 * i);
        }
        due("one more than 240", x.feed(0, 0, 0, 0, 1), -1);
        due("nothing more than 240", x.feed(0, 0, 0, 0, 0), 240);
        due("it stays", x.count(5), 240);
        due("end(239)", x.end(239), true);
        due("two more", x.feed(0x0101, 0, 0, 0, 0), -1);
        due("two more", x.feed(0, 0x0101, 0, 0, 0), -1);
        due("two more", x.feed(0, 0, 0x0101, 0, 0), -1);
        due("two more", x.feed(0, 0, 0, 0x0101, 0), -1);
        due("two more", x.feed(0, 0, 0, 0, 0x0101), -1);
        due("two more", x.feed(0, 1, 0, 1 << 24, 0), -1);
        due("refused whole", x.count(5), 239);
        due("one more", x.feed(1, 0, 0, 0, 0), 240);
        promise = "3";
        due("end(-1)", x.end(-1), false);
        due("end(241)", x.end(241), false);
        due("end(240)", x.end(240), true);
        due("end(4)", x.end(4), true);
        due("end(5)", x.end(5), false);
        due("four bytes", x.count(5), 4);
        for (int odd : ODD) {
            due("end(" + odd + ")", x.end(odd), false);
        }
        due("end(0)", x.end(0), true);
        due("end(0) again", x.end(0), true);
    }

    private static void faultAndText() {
        promise = "4";
        ArmchairHouse x = at(THREE);
        due("a house's bytes are gone", x.count(5), 0);
        put(x, "e1");
        due("fault(2)", x.fault(2), -1);
        due("fault(0)", x.fault(0), 0);
        due("fault(1)", x.fault(1), 0);
        for (int odd : ODD) {
            due("fault(" + odd + ")", x.fault(odd), -2);
        }
        due("fault(-1)", x.fault(-1), -2);
        due("fault(3)", x.fault(3), -2);
        due("the tape stays", x.count(5), 2);
        due("the house stays", x.count(0), 3);
        promise = "5";
        due("text(0) with a fault", x.text(0), -1);
        due("text(1) with a fault", x.text(1), -1);
        due("text(3)", x.text(3), -1);
        due("text(-1)", x.text(-1), -1);
        due("the tape stays", x.count(5), 2);
        due("text(2)", x.text(2), 0);
        due("empty then", x.count(5), 0);
        for (int i = 1; i < 4; i++) {
            due("season " + i, tell(x, 2, "i" + i), i);
        }
        due("a fifth season", tell(x, 2, "i5"), -1);
        due("its tape stays", x.count(5), 2);
        due("its fault", x.fault(2), -1);
        due("the seasons are as told", x.step(3, 0, 1), 3);
        for (int i = 0; i < 4; i++) {
            due("law " + i, tell(x, 1, "y:" + i), i);
        }
        due("a fifth law", tell(x, 1, "y:5"), -1);
        due("law(2)", x.law(2), true);
        due("flu(3)", x.flu(3), true);
        due("ill(1)", x.ill(1), true);
        x.evening(0);
        x.ill(2);
        x.price(9);
        x.howled(0, 0, 0, 0, true);
        x.image();
        due("another house", tell(x, 0, "p;ct1;t;t"), 1);
        int[] counts = {1, 2, 1, 4, 4, 0, 2, 0, 0, 0, 3, 0, 0, 0};
        for (int i = 0; i < counts.length; i++) {
            due("count(" + i + ") of another house", x.count(i), counts[i]);
        }
        due("its price", x.rule(1), 5);
        due("no image of it", x.back(), -1);
        due("no act of it", x.undo(), -1);
        due("no log of it", x.log(0, 0), -1);
        due("a faulty house", tell(x, 0, "p;c;c"), -1);
        due("changes nothing", x.count(0), 1);
    }

    private static void told() {
        promise = "6";
        ArmchairHouse x = at(THREE);
        due("rule(0)", x.rule(0), 10);
        due("rule(1)", x.rule(1), 4);
        due("rule(2)", x.rule(2), -1);
        due("rule(-1)", x.rule(-1), -1);
        x.price(30);
        due("price now", x.rule(1), 30);
        promise = "7";
        int[][] plays = {{9, 0, 4, 5}, {1, 2, 3, 1}};
        for (int p = 0; p < 2; p++) {
            for (int i = 0; i < 4; i++) {
                due("drama(" + p + "," + i + ")", x.drama(p, i), plays[p][i]);
            }
        }
        due("drama(2,0)", x.drama(2, 0), -1);
        due("drama(-1,0)", x.drama(-1, 0), -1);
        due("drama(0,4)", x.drama(0, 4), -1);
        due("drama(0,-1)", x.drama(0, -1), -1);
        promise = "8";
        int[][] chairs = {{6, 0, 10, 0}, {3, 0, 3, 0}, {9, 1, 50, 0}};
        for (int c = 0; c < 3; c++) {
            for (int i = 0; i < 4; i++) {
                due("chair(" + c + "," + i + ")", chair(x, c, i), chairs[c][i]);
            }
        }
        due("chair(3,0)", chair(x, 3, 0), -777);
        due("chair(-1,0)", chair(x, -1, 0), -777);
        due("chair(0,4)", chair(x, 0, 4), -777);
        due("chair(0,-1)", chair(x, 0, -1), -777);
        promise = "9";
        int[] dull = {1, 4, 0};
        for (int s = 0; s < 3; s++) {
            due("sitter(" + s + ",0)", x.sitter(s, 0), dull[s]);
            due("sitter(" + s + ",1)", x.sitter(s, 1), 0);
        }
        due("sitter(3,0)", x.sitter(3, 0), -1);
        due("sitter(-1,0)", x.sitter(-1, 0), -1);
        due("sitter(0,2)", x.sitter(0, 2), -1);
        due("sitter(0,-1)", x.sitter(0, -1), -1);
        promise = "1-9 untold";
        x = at("t;c;p");
        due("l", x.rule(0), 12);
        due("p", x.rule(1), 5);
        due("a", x.drama(0, 0), 3);
        due("m", x.drama(0, 3), 3);
        due("h", chair(x, 0, 0), 5);
        due("t", chair(x, 0, 1), 0);
        due("m of c", chair(x, 0, 2), 20);
        due("d", x.sitter(0, 0), 2);
        x = at("c h 09 m 99 t 5;s p 30 l 99;td9;t;t;t;t;t d 00;p m 9 c 9;p;p;p;c;c;c;c;c");
        due("six chairs", x.count(0), 6);
        due("six sitters", x.count(1), 6);
        due("four plays", x.count(2), 4);
        due("09", chair(x, 0, 0), 9);
        due("99", x.rule(0), 99);
    }

    private static void law(String law, int first) {
        due("by " + law, by("sl99;pa3m1;ch5;td2", law).feels(0, 0, 0), first);
    }

    private static void lawsByHand() {
        promise = "10";
        law("y:2+3*4", 14);
        law("y:20-5-3", 12);
        law("y:100/5/2", 10);
        law("y:[2+3]*4", 20);
        law("y:[0-7]/2+10", 7);
        law("y:5/0+4", 4);
        law("y:0-5", 0);
        law("y:9999", 99);
        law("y:9999*9999-9999*100-50", 50);
        law("y:0-9999*9999+9999*100+150", 50);
        law("y:f*10+h", 35);
        law("y:d*10+n", 21);
        law("y:k+e+6", 6);
        law("y:1=1|1=2&1=2?8;y:9", 8);
        law("y:!1=2&1=2?8;y:9", 9);
        law("y:!(1=2&1=2)?8;y:9", 8);
        law("y:(1=2|1=1)&(2>1)?8;y:9", 8);
        law("y:!!f=3?8", 8);
        law("y:f=2?8", 0);
        law("y:f<3?1;y:f>3?2;y:f=3?4;y:3", 4);
        law("y:f+h>d*4-1?7;y:1", 7);
        law(" y : ! ( f = 3 ) ? 1 ; y : [ f ] + 12 - h * 2 ", 5);
        law("y:![[[[[1]]]]]=2?[[[[[[7]]]]]]", 7);
        ArmchairHouse x = at("p;c;t");
        due("law(0) of none", x.law(0), false);
        due("law(-1)", x.law(-1), true);
        due("law(-1) again", x.law(-1), true);
        tell(x, 1, "y:1");
        tell(x, 1, "y:2");
        due("none holds yet", x.feels(0, 0, 0), 18);
        due("law(1)", x.law(1), true);
        due("the second", x.feels(0, 0, 0), 6);
        due("law(2)", x.law(2), false);
        due("law(-2)", x.law(-2), false);
        for (int odd : ODD) {
            due("law(" + odd + ")", x.law(odd), false);
        }
        due("still the second", x.count(6), 1);
        due("none", x.law(-1), true);
        due("none holds", x.count(6), -1);
        due("as without", x.feels(0, 0, 0), 18);
        // n counts who is not OUT as the minute begins, k and e go on
        x = by("sl7;pm3;ch9;ch0;t", "y:n*10+k+e-[9-h]");
        due("20 by two", x.feels(0, 0, 0), 10);
        due("11 by two, then alone", x.feels(1, 0, 0), 5 + 2 + 3);
        due("the minute", x.feels(1, 0, 1), -1);
        due("an evening", x.evening(0), 20);
        due("the evening after: h 8 and e 1", x.feels(0, 0, 0), 10);
    }

    private static void fluAndEvenings() {
        promise = "11";
        ArmchairHouse x = at(THREE);
        due("flu(1)", x.flu(1), false);
        due("flu(9)", x.flu(9), true);
        due("flu(9) again", x.flu(9), false);
        due("flu(10)", x.flu(10), false);
        due("flu(-1)", x.flu(-1), false);
        due("flu(0)", x.flu(0), true);
        due("count(10)", x.count(10), 0);
        promise = "12";
        due("evening(2)", x.evening(2), -1);
        due("evening(-1)", x.evening(-1), -1);
        due("no act", x.count(13), 0);
        // minute 0: 14/2, 11/2, 14 (led out); then 5/2, 2/2; 9/2, 6/2; 14/2, 11/2; 5/2, 2/2
        due("evening(0)", x.evening(0), 51);
        due("tears 0", chair(x, 0, 3), 22);
        due("tears 1", chair(x, 1, 3), 15);
        due("tears 2", chair(x, 2, 3), 14);
        due("heart 0", chair(x, 0, 0), 6);
        due("heart 2", chair(x, 2, 0), 8);
        due("the evening", x.count(7), 1);
        due("log out", x.log(0, 2), 4);
        // nobody is OUT as the next begins: 13 now
        due("evening(0) again", x.evening(0), 50);
        due("heart 2 then", chair(x, 2, 0), 7);
        due("evening(1)", x.evening(1), 3 + 1 + 4);
        due("out in no minute", x.log(0, 2), 0);
        // led out in the last minute, and a heart of 0
        x = by("sl5;pm2;ch0;t", "y:k*5");
        due("moved", x.evening(0), 5);
        due("out at the end", x.log(0, 2), 1);
        due("heart 0 at least", chair(x, 0, 0), 0);
        // tears 9,999 at most, what was moved is not held
        x = by("sl99;pm9;c;t", "y:98");
        for (int i = 0; i < 12; i++) {
            due("evening " + i, x.evening(0), 882);
        }
        due("tears", chair(x, 0, 3), 9999);
        due("all tears", x.count(8), 9999);
    }

    private static void changeAndIll() {
        promise = "13";
        ArmchairHouse x = at(THREE);
        due("change(0,0)", x.change(0, 0), -1);
        due("change(0,3)", x.change(0, 3), -1);
        due("change(0,-1)", x.change(0, -1), -1);
        due("change(3,0)", x.change(3, 0), -1);
        due("change(-1,0)", x.change(-1, 0), -1);
        due("too little", x.change(1, 1), -1);
        due("no act", x.count(13), 0);
        due("change(0,2)", x.change(0, 2), 6);
        due("its ticket", chair(x, 0, 1), 2);
        due("change(0,1)", x.change(0, 1), 2);
        due("too little now", x.change(0, 0), -1);
        x.price(2);
        due("just enough", x.change(0, 0), 0);
        x.price(0);
        due("for nothing", x.change(0, 1), 0);
        promise = "14";
        x = at(THREE);
        due("ill(3)", x.ill(3), false);
        due("ill(-1)", x.ill(-1), false);
        due("ill(32)", x.ill(32), false);
        due("ill(1)", x.ill(1), true);
        due("ill(1) again", x.ill(1), false);
        due("ill(2)", x.ill(2), true);
        due("bits", x.count(9), 6);
        due("sitter(1,1)", x.sitter(1, 1), 1);
        due("two acts", x.count(13), 2);
        due("nothing from it", x.evening(0), 22 + 15);
        due("well", x.count(9), 0);
        due("heart as it was", chair(x, 2, 0), 9);
        due("ill again", x.ill(1), true);
    }

    private static void heartGivePrice() {
        promise = "15";
        ArmchairHouse x = at(THREE);
        due("heart(3,1)", x.heart(3, 1), -1);
        due("heart(-1,1)", x.heart(-1, 1), -1);
        due("heart(0,6)", x.heart(0, 6), -1);
        due("heart(0,10)", x.heart(0, 10), -1);
        due("heart(0,-1)", x.heart(0, -1), -1);
        due("heart(0,9)", x.heart(0, 9), 6);
        due("heart(0,0)", x.heart(0, 0), 9);
        due("heart now", chair(x, 0, 0), 0);
        due("two acts", x.count(13), 2);
        promise = "16";
        due("give(3,1)", x.give(3, 1), -1);
        due("give(-1,1)", x.give(-1, 1), -1);
        due("give(0,0)", x.give(0, 0), -1);
        due("give(0,51)", x.give(0, 51), -1);
        due("give(0,-5)", x.give(0, -5), -1);
        due("give(0,max)", x.give(0, Integer.MAX_VALUE), -1);
        due("give(2,50)", x.give(2, 50), -1);
        due("give(2,49)", x.give(2, 49), 99);
        due("give(2,1)", x.give(2, 1), -1);
        due("give(0,50)", x.give(0, 50), 60);
        due("money", chair(x, 0, 2), 60);
        promise = "17";
        due("price(4)", x.price(4), -1);
        due("price(31)", x.price(31), -1);
        due("price(-1)", x.price(-1), -1);
        due("price(30)", x.price(30), 4);
        due("price(0)", x.price(0), 30);
        due("six acts", x.count(13), 6);
    }

    /** The draws of the document, by plain long reckoning. */
    private static long x64;

    private static int draw(int j) {
        x64 = x64 * 6364136223846793005L + 1442695040888963407L;
        return (int) ((x64 >>> 33) % j);
    }

    private static void years() {
        promise = "18";
        ArmchairHouse x = at(THREE);
        due("years(0)", x.years(0, 5), -1);
        due("years(31)", x.years(31, 5), -1);
        due("years(-1)", x.years(-1, 5), -1);
        due("nothing changed", x.count(7), 0);
        x.flu(5);
        ArmchairHouse y = at(THREE);
        x64 = -77;
        for (int i = 0; i < 30; i++) {
            if (draw(10) < 5) {
                y.ill(draw(3));
            }
            int c = draw(3);
            y.change(c, draw(3));
            y.evening(draw(2));
        }
        due("years(30)", x.years(30, -77), 30);
        for (int c = 0; c < 3; c++) {
            for (int i = 0; i < 4; i++) {
                due("chair(" + c + "," + i + ") by hand", chair(x, c, i), chair(y, c, i));
            }
        }
        for (int i = 0; i < 30; i++) {
            for (int what = 0; what < 3; what++) {
                due("log(" + i + "," + what + ") by hand", x.log(i, what), y.log(i, what));
            }
        }
        due("thirty acts", x.count(13), 30);
        due("one undone", x.undo(), 29);
        due("the evening", x.count(7), 29);
        due("nobody ill ahead of it", x.count(9), 0);
        x = at(THREE);
        x.ill(2);
        due("ill ones stay ill for the first", x.years(1, 3), 1);
        due("undone", x.undo(), 1);
        due("ill again", x.count(9), 4);
    }

    private static void undoAndLog() {
        promise = "19";
        ArmchairHouse x = at(THREE);
        due("undo of nothing", x.undo(), -1);
        x.change(0, 1);
        x.ill(0);
        x.heart(1, 8);
        x.give(1, 7);
        x.price(1);
        x.evening(0);
        due("six", x.count(13), 6);
        due("the evening", x.undo(), 5);
        due("no tears", x.count(8), 0);
        due("ill again", x.count(9), 1);
        due("evening 0", x.count(7), 0);
        due("no log", x.count(12), 0);
        due("the price", x.undo(), 4);
        due("it was", x.rule(1), 4);
        due("the gift", x.undo(), 3);
        due("money", chair(x, 1, 2), 3);
        due("the heart", x.undo(), 2);
        due("heart", chair(x, 1, 0), 3);
        due("the illness", x.undo(), 1);
        due("well", x.count(9), 0);
        due("the change", x.undo(), 0);
        due("ticket", chair(x, 0, 1), 0);
        due("money back", chair(x, 0, 2), 10);
        due("none", x.undo(), -1);
        promise = "19, 20";
        // evening E moves by E in each minute until led out at 12
        x = by("p;c;t", "y:e");
        x.flu(0);
        for (int i = 0; i < 3; i++) {
            x.years(30, i);
        }
        x.years(20, 9);
        due("110 evenings", x.count(7), 110);
        due("log of 60", x.count(12), 60);
        due("acts of 40", x.count(13), 40);
        due("latest", x.log(0, 1), 99);
        due("the 60th", x.log(59, 1), 50);
        due("the 61st", x.log(60, 1), -1);
        for (int i = 39; i >= 0; i--) {
            due("undo to " + i, x.undo(), i);
        }
        due("no more", x.undo(), -1);
        due("70 evenings", x.count(7), 70);
        due("log of 60 again", x.count(12), 60);
        for (int i = 0; i < 60; i++) {
            int e = 69 - i;
            due("log(" + i + ",1)", x.log(i, 1), e < 12 ? 3 * e : e);
            due("log(" + i + ",2)", x.log(i, 2), e < 12 ? 0 : 1);
        }
        due("log(60,0)", x.log(60, 0), -1);
        due("log(-1,0)", x.log(-1, 0), -1);
        due("log(0,3)", x.log(0, 3), -1);
        due("log(0,-1)", x.log(0, -1), -1);
        x = at(THREE);
        x.evening(1);
        x.evening(0);
        due("the latest play", x.log(0, 0), 0);
        due("the one ahead of it", x.log(1, 0), 1);
        due("no third", x.log(2, 0), -1);
    }

    private static void seasons() {
        promise = "21";
        ArmchairHouse x = at(THREE);
        due("a season", tell(x, 2, "e1;x0 2;i2;e0;x25;e1"), 0);
        int[][] steps = {{0, 1, -1}, {1, 0, 2}, {2, 2, -1}, {0, 0, -1}, {1, 2, 5}, {0, 1, -1}};
        for (int i = 0; i < steps.length; i++) {
            for (int what = 0; what < 3; what++) {
                due("step(0," + i + "," + what + ")", x.step(0, i, what), steps[i][what]);
            }
        }
        due("step(0,6,0)", x.step(0, 6, 0), HID);
        due("step(0,-1,0)", x.step(0, -1, 0), HID);
        due("step(1,0,0)", x.step(1, 0, 0), HID);
        due("step(-1,0,0)", x.step(-1, 0, 0), HID);
        due("step(0,0,3)", x.step(0, 0, 3), HID);
        due("step(0,0,-1)", x.step(0, 0, -1), HID);
        promise = "22";
        // evening 1: 10; then chair 0 has sitter 2, who is ill: chair 1 alone 11 (out), chair 2 14 (out)
        due("run(0,0)", x.run(0, 0), 4);
        due("run(0,1)", x.run(0, 1), 10 + 25);
        due("run(0,2)", x.run(0, 2), HID);
        due("run(0,-1)", x.run(0, -1), HID);
        due("run(1,0)", x.run(1, 0), HID);
        due("run(-1,0)", x.run(-1, 0), HID);
        due("apart", x.count(7), 0);
        due("apart, no acts", x.count(13), 0);
        tell(x, 2, "e1;i0;e1");
        due("run(1,0)", x.run(1, 0), -1);
        due("run(1,1)", x.run(1, 1), 10 + 6);
        tell(x, 2, "i0;i0");
        due("ill twice", x.run(2, 0), 1);
        tell(x, 2, "e2");
        due("no such play", x.run(3, 0), 0);
        due("nothing", x.run(3, 1), 0);
        promise = "23";
        due("perform(0)", x.perform(0), 4);
        due("acts", x.count(13), 4);
        due("log", x.count(12), 2);
        due("moved", x.log(0, 1), 25);
        due("out", x.log(0, 2), 6);
        due("ticket", chair(x, 0, 1), 2);
        due("perform(1)", x.perform(1), 3);
        due("perform(3)", x.perform(3), 0);
        due("perform(4)", x.perform(4), -1);
        due("perform(-1)", x.perform(-1), -1);
        due("undo", x.undo(), 6);
        due("ill again", x.count(9), 1);
        due("a season at the last", x.perform(2), 0);
    }

    private static void feelsAndFirst() {
        promise = "24";
        ArmchairHouse x = at(THREE);
        int[] feels = {22, 15, 14};
        int[] out = {-1, -1, 0};
        for (int c = 0; c < 3; c++) {
            due("feels(" + c + ",0,0)", x.feels(c, 0, 0), feels[c]);
            due("feels(" + c + ",0,1)", x.feels(c, 0, 1), out[c]);
        }
        due("feels(0,1,0)", x.feels(0, 1, 0), 3);
        due("feels(3,0,0)", x.feels(3, 0, 0), HID);
        due("feels(-1,0,0)", x.feels(-1, 0, 0), HID);
        due("feels(0,2,0)", x.feels(0, 2, 0), HID);
        due("feels(0,-1,0)", x.feels(0, -1, 0), HID);
        due("feels(0,0,2)", x.feels(0, 0, 2), HID);
        due("feels(0,0,-1)", x.feels(0, 0, -1), HID);
        x.ill(0);
        due("ill", x.feels(0, 0, 0), 0);
        due("apart", x.count(7), 0);
        promise = "25";
        due("first(0)", x.first(0), 2);
        due("first(1)", x.first(1), -1);
        due("first(2)", x.first(2), -1);
        due("first(-1)", x.first(-1), -1);
        // chair 0 is led out in minute 1, chairs 1 and 2 in minute 0
        x = at("sl9;pa6b9;ch0t0;ch5t1;ch9t2;td0;td0;td0");
        due("of several the lowest", x.first(0), 1);
        due("feels(0,0,1)", x.feels(0, 0, 1), 1);
        due("up to then", x.feels(0, 0, 0), 15);
    }

    private static void ticketsAndMost() {
        promise = "26";
        ArmchairHouse x = at(THREE);
        due("w 1", x.tickets(1, 1, 0), 0);
        due("w 1, the row", x.tickets(1, 1, 1), 1);
        due("w 2", x.tickets(1, 2, 0), 1);
        due("w 2, the row", x.tickets(1, 2, 1), 21);
        due("w 99", x.tickets(1, 99, 0), -1);
        due("w 99, the row", x.tickets(1, 99, 1), -1);
        due("w 100", x.tickets(1, 100, 0), -1);
        due("w -1", x.tickets(1, -1, 0), -1);
        due("play 2", x.tickets(2, 0, 0), -1);
        due("play -1", x.tickets(-1, 0, 0), -1);
        due("what 2", x.tickets(1, 0, 2), -1);
        due("what -1", x.tickets(1, 0, -1), -1);
        // chair 2 must share: with sitter 0 all three feel 14/3, 11/3, 17/3 first
        due("nobody led out", x.tickets(0, 0, 0), 1);
        due("nobody led out, the row", x.tickets(0, 0, 1), 0);
        x.price(30);
        due("price does not matter", x.tickets(1, 2, 0), 1);
        x.ill(0);
        due("ill ones count", x.tickets(1, 0, 0), 0);
        due("ill, w 1", x.tickets(1, 1, 0), 2);
        due("ill, w 1, the row", x.tickets(1, 1, 1), 121);
        promise = "27";
        x = at(THREE);
        due("the row", x.most(1, 0), 12);
        due("that", x.most(1, 1), 16);
        due("play 2", x.most(2, 0), -1);
        due("play -1", x.most(-1, 1), -1);
        due("what 2", x.most(0, 2), -1);
        due("what -1", x.most(0, -1), -1);
        x.ill(0);
        due("ill, the row", x.most(1, 0), 102);
        due("ill, that", x.most(1, 1), 13);
        due("w 99 can be", by("sl99;pm9;c;t", "y:11").tickets(0, 99, 0), 0);
        // six by six: each sitter once is best, the least row is rising
        x = by("pm1;c;c;c;c;c;c;t;t;t;t;t;t", "y:n=1?9;y:0");
        due("rising", x.most(0, 0), 12345);
        due("all", x.most(0, 1), 54);
        due("tickets", x.tickets(0, 9, 0), 5);
        due("the row", x.tickets(0, 9, 1), 12345);
    }

    private static void howled() {
        promise = "28";
        ArmchairHouse x = at(THREE);
        due("chair 3", x.howled(3, 0, 0, 1, true), -1);
        due("chair -1", x.howled(-1, 0, 0, 1, true), -1);
        due("play 2", x.howled(0, 2, 0, 1, true), -1);
        due("play -1", x.howled(0, -1, 0, 1, true), -1);
        due("minute 9", x.howled(0, 0, 9, 1, true), -1);
        due("minute -1", x.howled(0, 0, -1, 1, true), -1);
        due("v 100", x.howled(0, 0, 0, 100, true), -1);
        due("v -1", x.howled(0, 0, 0, -1, true), -1);
        due("none", x.count(11), 0);
        due("the first", x.howled(0, 1, 0, 3, true), 1);
        promise = "29";
        // by play 1: sitter 0 shared 3, sitter 1 shared 1, sitter 2 alone 7
        due("whose(0)", x.whose(0), 5);
        due("whose(1)", x.whose(1), 7);
        due("whose(3)", x.whose(3), -1);
        due("whose(-1)", x.whose(-1), -1);
        promise = "30";
        due("v 5", x.following(0, 5), 1);
        due("v 99", x.following(0, 99), 0);
        due("v 100", x.following(0, 100), -1);
        due("v -1", x.following(0, -1), -1);
        due("chair 3", x.following(3, 1), -1);
        due("chair -1", x.following(-1, 1), -1);
        promise = "29";
        due("not 4 or more", x.howled(0, 1, 0, 4, false), 2);
        due("sitter 0 then", x.whose(0), 1);
        x.ill(0);
        due("nobody is ill", x.whose(0), 1);
        x.price(0);
        x.change(1, 2);
        due("tickets as now", x.whose(0), 4);
        x.undo();
        x.evening(0);
        due("as before", x.whose(0), 1);
        due("a minute behind the play", x.howled(1, 1, 5, 0, true), 3);
        due("nothing is 0 or more", x.whose(1), 7);
        due("and was not", x.howled(1, 1, 5, 0, false), 4);
        due("nobody", x.whose(1), 0);
        promise = "30";
        due("nobody fits", x.following(1, 1), -1);
        promise = "28";
        for (int i = 5; i <= 10; i++) {
            due("howled " + i, x.howled(2, 0, 8, 99, false), i);
        }
        due("ten", x.howled(2, 0, 8, 99, false), -1);
        due("count", x.count(11), 10);
        promise = "29";
        x = at(THREE);
        for (int i = 1; i <= 9; i++) {
            x.howled(0, 0, 0, 0, true);
        }
        due("nothing told by nine", x.whose(0), 7);
        due("the tenth", x.howled(0, 1, 0, 4, true), 10);
        due("the tenth tells", x.whose(0), 4);
        // evening 0, whatever it is
        x = by("sl99;p;c;t", "y:e+4");
        x.evening(0);
        x.howled(0, 0, 2, 4, true);
        x.howled(0, 0, 2, 5, false);
        due("evening 0", x.whose(0), 1);
    }

    private static void halvesAndGames() {
        promise = "31";
        ArmchairHouse x = at(THREE);
        int[] sums = {0, 1, 3, 4, 6, 7, 9, 10};
        int[] sets = {0, 2, 1, 3, 4, 6, 5, 7};
        for (int i = 0; i < sums.length; i++) {
            due("how many of " + sums[i], x.halves(1, sums[i], -1), 1);
            due("of " + sums[i], x.halves(1, sums[i], 0), sets[i]);
            due("no second of " + sums[i], x.halves(1, sums[i], 1), -1);
        }
        due("none of 5", x.halves(1, 5, -1), 0);
        due("no first of 5", x.halves(1, 5, 0), -1);
        due("i -2", x.halves(1, 4, -2), -1);
        due("sum 999", x.halves(1, 999, -1), 0);
        due("sum 1000", x.halves(1, 1000, -1), -1);
        due("sum -1", x.halves(1, -1, -1), -1);
        due("play 2", x.halves(2, 0, -1), -1);
        due("play -1", x.halves(-1, 0, -1), -1);
        x = by("pm1;c;ct1;ct2;t;t;t", "y:2");
        due("three of 4", x.halves(0, 4, -1), 3);
        due("rising", x.halves(0, 4, 0), 3);
        due("rising", x.halves(0, 4, 1), 5);
        due("rising", x.halves(0, 4, 2), 6);
        promise = "32";
        x = at(THREE);
        int[][] first = {{3, 6, 6}, {-3, -3, -3}, {3, 3, -1}};
        int[][] second = {{1, -4, 0}, {3, -4, 0}, {3, -4, -2}};
        for (int i = 0; i < 3; i++) {
            for (int j = 0; j < 3; j++) {
                due("game " + i + j, x.game(0, 1, 1, i, j, 0), first[i][j]);
                due("game " + i + j + " of the second", x.game(0, 1, 1, i, j, 1), second[i][j]);
                due("the other way", x.game(1, 0, 1, j, i, 1), first[i][j]);
            }
        }
        due("led out", x.game(2, 1, 0, 1, 0, 0), 0);
        due("led out by another", x.game(2, 1, 0, 2, 0, 0), -4);
        due("alike", x.game(1, 1, 0, 0, 0, 0), HID);
        due("one 3", x.game(3, 1, 0, 0, 0, 0), HID);
        due("other -1", x.game(0, -1, 0, 0, 0, 0), HID);
        due("play 2", x.game(0, 1, 2, 0, 0, 0), HID);
        due("x 3", x.game(0, 1, 0, 3, 0, 0), HID);
        due("y -1", x.game(0, 1, 0, 0, -1, 0), HID);
        due("what 2", x.game(0, 1, 0, 0, 0, 2), HID);
        due("what -1", x.game(0, 1, 0, 0, 0, -1), HID);
        promise = "33";
        due("rests", x.rests(0, 1, 1, -1), 2);
        due("the first", x.rests(0, 1, 1, 0), 0);
        due("the second", x.rests(0, 1, 1, 1), 20);
        due("no third", x.rests(0, 1, 1, 2), -1);
        due("the other way", x.rests(1, 0, 1, 1), 2);
        due("i -2", x.rests(0, 1, 1, -2), -1);
        due("alike", x.rests(0, 0, 1, -1), -1);
        due("one 3", x.rests(3, 0, 1, -1), -1);
        due("other -1", x.rests(0, -1, 1, -1), -1);
        due("play 2", x.rests(0, 1, 2, -1), -1);
    }

    private static void borneAndMeant() {
        promise = "34";
        ArmchairHouse x = at(THREE);
        int row = 0;
        for (int n = 1; n <= 4; n++) {
            row = 10 * row + 1;
            due("borne(" + n + ",0)", x.borne(n, 0), row);
            due("borne(" + n + ",1)", x.borne(n, 1), 10 * n);
        }
        due("borne(0,0)", x.borne(0, 0), -1);
        due("borne(5,0)", x.borne(5, 0), -1);
        due("what 2", x.borne(1, 2), -1);
        due("what -1", x.borne(1, -1), -1);
        due("no house", new ArmchairHouse().borne(1, 0), -1);
        x.ill(1);
        due("with the third's sitter ill", x.borne(2, 0), 1);
        due("that", x.borne(2, 1), 37 + 10);
        due("all led out", at("sl1;p;c;t").borne(1, 0), -1);
        // play 0 moves 1 a minute, play 1 moves e: one, then the other is more; of several the least
        x = by("sl9;pa1m1;pa0m1;pa0m1;c;t", "y:f=1?1;y:e");
        due("the row", x.borne(4, 0), 11);
        due("that", x.borne(4, 1), 1 + 1 + 2 + 3);
        promise = "35";
        x = at(THREE);
        due("meant(1,0)", x.meant(1, 0), 4);
        due("meant(0,1)", x.meant(0, 1), 4);
        due("meant(0,5)", x.meant(0, 5), -1);
        due("meant(1,1)", x.meant(1, 1), -1);
        due("meant(0,-1)", x.meant(0, -1), -1);
        due("meant(2,0)", x.meant(2, 0), -1);
        due("meant(-1,0)", x.meant(-1, 0), -1);
        x.ill(1);
        due("without the ill one", x.meant(1, 0), 1);
        x.ill(0);
        due("nothing is half of nothing", x.meant(1, 0), 0);
        x = at("pa1m1;ch1;ch2t1;td0;td0");
        due("half of 5, cut, is 2", x.meant(0, 0), 1);
        x = at("pa0m1;ch1;ch1t1;ch1t2;ch1t3;td0;td0;td0;td0");
        due("two of four", x.meant(0, 0), 3);
    }

    private static void oddsAndHardens() {
        promise = "36";
        ArmchairHouse x = at(THREE);
        due("odds(0,0,30)", x.odds(0, 0, 30), 70);
        due("odds(0,0,0)", x.odds(0, 0, 0), 100);
        due("odds(0,0,100)", x.odds(0, 0, 100), 0);
        due("led out", x.odds(2, 0, 30), 0);
        due("chance 101", x.odds(0, 0, 101), -1);
        due("chance -1", x.odds(0, 0, -1), -1);
        due("chair 3", x.odds(3, 0, 1), -1);
        due("chair -1", x.odds(-1, 0, 1), -1);
        due("play 2", x.odds(0, 2, 1), -1);
        due("play -1", x.odds(0, -1, 1), -1);
        x.ill(0);
        due("ill now", x.odds(0, 0, 30), 0);
        due("moved in no minute", at("pa0m1;ch0;t").odds(0, 0, 0), 0);
        promise = "40";
        x = at(THREE);
        due("hardens(2,0)", x.hardens(2, 0), 4);
        due("hardens(0,0)", x.hardens(0, 0), 9);
        due("chair 3", x.hardens(3, 0), -1);
        due("chair -1", x.hardens(-1, 0), -1);
        due("play 2", x.hardens(0, 2), -1);
        due("play -1", x.hardens(0, -1), -1);
        due("with none", at("sl1;p;c;t").hardens(0, 0), -1);
        due("a heart between", by("sl9;p;c;t", "y:h=6?1;y:9").hardens(0, 0), 6);
        due("a heart of 0", by("sl9;p;c;t", "y:h=0?1;y:9").hardens(0, 0), 0);
        due("apart", chair(x, 2, 0), 9);
    }

    private static void whatStandsOut() {
        promise = "37";
        ArmchairHouse x = at(THREE);
        int[] all = {2, 2, 0, 1, 4, 0, 5, 1};
        for (int i = 0; i < all.length; i++) {
            due("all(" + i + ")", x.all(i), all[i]);
        }
        due("all(8)", x.all(8), -1);
        due("all(-1)", x.all(-1), -1);
        due("no house", new ArmchairHouse().all(4), -1);
        x.evening(0);
        due("saddest", x.all(2), 0);
        x.ill(0);
        x.evening(0);
        due("saddest then", x.all(2), 2);
        x = at("sp20;p;p;pa9b0c0m3;c;c;ct1;t;t;t");
        int[] even = {0, 0, 0, 0, 4, 0, 7, 1};
        for (int i = 0; i < even.length; i++) {
            due("of several the lowest: all(" + i + ")", x.all(i), even[i]);
        }
        x.price(21);
        due("nobody can pay", x.all(6), 0);
        promise = "38";
        x = at(THREE);
        due("peak(0,0)", x.peak(0, 0), 0);
        due("peak(0,1)", x.peak(0, 1), 22);
        due("peak(1,0)", x.peak(1, 0), 0);
        due("peak(1,1)", x.peak(1, 1), 1);
        due("peak(2,0)", x.peak(2, 0), -1);
        due("peak(-1,0)", x.peak(-1, 0), -1);
        due("peak(0,2)", x.peak(0, 2), -1);
        due("peak(0,-1)", x.peak(0, -1), -1);
        x = at("pa1b2c5m8;pa1b5c5m2;c;t");
        due("the earliest", x.peak(0, 0), 2);
        due("eight minutes", x.peak(0, 1), 19);
        due("within its minutes", x.peak(1, 0), 1);
        promise = "39";
        x = at(THREE);
        due("house(0)", x.house(0), 3);
        due("house(1)", x.house(1), 4);
        due("house(2)", x.house(2), 0);
        due("house(3)", x.house(3), -1);
        due("house(-1)", x.house(-1), -1);
    }

    private static void images() {
        promise = "41";
        ArmchairHouse x = at(THREE);
        due("no image yet", x.back(), -1);
        x.evening(0);
        x.ill(2);
        x.change(0, 2);
        x.price(7);
        due("image", x.image(), 1);
        due("no act", x.count(13), 4);
        promise = "42";
        x.howled(0, 0, 0, 1, true);
        x.flu(7);
        x.evening(1);
        x.evening(1);
        x.give(1, 20);
        x.heart(0, 1);
        x.price(2);
        due("back", x.back(), 1);
        int[][] chairs = {{6, 2, 6, 22}, {3, 0, 3, 15}, {8, 1, 50, 14}};
        for (int c = 0; c < 3; c++) {
            for (int i = 0; i < 4; i++) {
                due("chair(" + c + "," + i + ")", chair(x, c, i), chairs[c][i]);
            }
        }
        due("ill", x.count(9), 4);
        due("price", x.rule(1), 7);
        due("evening", x.count(7), 1);
        due("log", x.count(12), 1);
        due("line", x.log(0, 1), 51);
        due("no act can be undone", x.undo(), -1);
        due("count", x.count(13), 0);
        due("howled stays", x.count(11), 1);
        due("flu stays", x.count(10), 7);
        x.evening(1);
        due("an act", x.count(13), 1);
        due("undone", x.undo(), 0);
        due("as in the image", x.count(9), 4);
        due("back again", x.back(), 1);
        x.evening(0);
        due("another image", x.image(), 2);
        x.evening(0);
        due("back to it", x.back(), 2);
        due("refused: back of another house", tell(x, 0, "p;c;t") == 1 && x.back() == -1, true);
        // a log of more than 60 lines
        x = by("p;c;t", "y:e");
        x.flu(0);
        x.years(30, 1);
        x.years(30, 1);
        x.years(10, 1);
        x.image();
        x.years(30, 1);
        due("back", x.back(), 70);
        due("60 lines", x.count(12), 60);
        due("the latest", x.log(0, 1), 69);
        due("the oldest", x.log(59, 1), 30);
        x.evening(0);
        due("60 still", x.count(12), 60);
        due("the oldest now", x.log(59, 1), 33);
        x.undo();
        due("the oldest again", x.log(59, 1), 30);
    }

    private static void counts() {
        promise = "43";
        ArmchairHouse x = by(THREE, "y:f+h-d");
        tell(x, 2, "e0");
        tell(x, 2, "e1");
        x.flu(4);
        x.evening(0);
        x.evening(1);
        x.ill(0);
        x.ill(2);
        x.howled(0, 0, 0, 0, true);
        x.feed(0x61, 0x62, 0x63, 0, 0);
        int[] counts = {3, 3, 2, 1, 2, 3, 0, 2, 51 + 9, 5, 4, 1, 2, 4};
        for (int i = 0; i < counts.length; i++) {
            due("count(" + i + ")", x.count(i), counts[i]);
        }
        due("count(14)", x.count(14), HID);
        due("count(-1)", x.count(-1), HID);
        for (int odd : ODD) {
            if (odd != 7) {
                due("count(" + odd + ")", x.count(odd), HID);
            }
        }
    }

    private static void lateEvenings() {
        promise = "12, 18, 22, 34 at evening 999";
        ArmchairHouse x = by("sl99;pm1;c;t", "y:e/100");
        tell(x, 2, "e0;e0;e0");
        x.flu(0);
        for (int i = 1; i <= 33; i++) {
            due("years", x.years(30, i), 30 * i);
        }
        due("beyond", x.years(10, 1), -1);
        due("up to 999", x.years(9, 1), 999);
        x.undo();
        due("the last but one", x.undo(), 38);
        due("beyond still", x.years(3, 1), -1);
        due("a run up to 999", x.run(0, 0), 2);
        due("moved", x.run(0, 1), 18);
        due("the season", x.perform(0), 2);
        due("999", x.count(7), 999);
        due("no evening then", x.evening(0), -1);
        due("no years then", x.years(1, 1), -1);
        due("no run then", x.run(0, 0), 0);
        due("feels", x.feels(0, 0, 0), 9);
        due("evenings go on apart", x.borne(4, 1), 9 + 10 + 10 + 10);
        due("the row", x.borne(4, 0), 0);
        due("undo", x.undo(), 39);
        due("an evening again", x.evening(0), 9);
    }
}
