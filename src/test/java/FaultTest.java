import java.nio.charset.StandardCharsets;
import java.util.Random;

/** FAULTS by hand, and that each is the first byte at which no text can go on. */
public final class FaultTest {
    private static int wrong = 0;
    private static int checks = 0;

    private static int fault(String text, int sort) {
        ArmchairHouse x = new ArmchairHouse();
        byte[] bytes = text.getBytes(StandardCharsets.ISO_8859_1);
        for (int i = 0; i < bytes.length; i += 20) {
            int[] five = new int[5];
            for (int j = 0; j < 20 && i + j < bytes.length; j++) {
                five[j / 4] |= (bytes[i + j] & 255) << 24 - 8 * (j % 4);
            }
            if (x.feed(five[0], five[1], five[2], five[3], five[4]) < 0) {
                throw new IllegalStateException("too long: " + text);
            }
        }
        return x.fault(sort);
    }

    private static void due(int sort, String text, int want) {
        checks++;
        int got = fault(text, sort);
        if (got != want) {
            wrong++;
            System.out.println("fault(" + sort + ") of '" + text + "' answered " + got + ", due is " + want);
        }
    }

    public static void main(String[] args) {
        houses();
        laws();
        seasons();
        goOn(1, new Random(5), "y:;!([)]|&=<>+-*/?fhdnke12 ");
        goOn(2, new Random(6), "exi;0123 ");
        System.out.println(checks + " checks, " + wrong + " answers are not as due");
        if (wrong != 0) {
            System.exit(1);
        }
    }

    private static void houses() {
        due(0, "p;c;t", -1);
        due(0, "t;c;p;s", -1);
        due(0, "  p ; c ; t  ", -1);
        due(0, "pa1b2c3m4;ch1t0m2;td3;sl4p5", -1);
        due(0, "pm4c3b2a1;cm2t0h1;td3;sp5l4", -1);
        due(0, "", 0);
        due(0, "   ", 3);
        due(0, ";", 0);
        due(0, "p;", 2);
        due(0, "p;;", 2);
        due(0, "p;c;t;", 6);
        due(0, "p;c;t; ", 7);
        due(0, "p;c", 3);
        due(0, "p;t", 3);
        due(0, "c;t", 3);
        due(0, "c;t ", 4);
        due(0, "P", 0);
        due(0, "pp", 1);
        due(0, "p1", 1);
        due(0, "px1", 1);
        due(0, "pa", 2);
        due(0, "pa ", 3);
        due(0, "pa;", 2);
        due(0, "pab", 2);
        due(0, "pa1 2", 4);
        due(0, "pa1a", 3);
        due(0, "pa1b1c1m1a1", 9);
        due(0, "pa1b1c1m1;", 10);
        due(0, "td1d1", 3);
        due(0, "td1 x", 4);
        // bounds: wrong at the last digit; a third digit itself, whatever stands ahead of it
        due(0, "pa9;c;t", -1);
        due(0, "pa09;c;t", -1);
        due(0, "pa10", 3);
        due(0, "pa99", 3);
        due(0, "pa100", 4);
        due(0, "pa009", 4);
        due(0, "pa 10 ", 4);
        due(0, "pm0", 2);
        due(0, "pm00", 3);
        due(0, "pm0;c;t", 2);
        due(0, "pm0 1", 2);
        due(0, "pm01;c;t", -1);
        due(0, "pm000", 4);
        due(0, "pm10", 3);
        due(0, "sl0;p;c;t", 2);
        due(0, "sl01;p;c;t", -1);
        due(0, "sl99;p;c;t", -1);
        due(0, "sl990", 4);
        due(0, "sp30;p;c;t", -1);
        due(0, "sp31;p;c;t", 3);
        due(0, "sp310;p;c;t", 4);
        due(0, "sp0;p;c;t", -1);
        due(0, "ch9;p;t", -1);
        due(0, "ch10", 3);
        due(0, "ct5;p;t;t;t;t;t;t", -1);
        due(0, "ct6", 2);
        due(0, "ct10", 3);
        due(0, "cm99;p;t", -1);
        due(0, "cm100", 4);
        due(0, "td9;p;c", -1);
        due(0, "td10", 3);
        // how many there may be
        due(0, "s;s", 2);
        due(0, "s;p;c;t;s", 8);
        due(0, "p;p;p;p;c;t", -1);
        due(0, "p;p;p;p;p", 8);
        due(0, "c;c;c;c;c;c;p;t", -1);
        due(0, "c;c;c;c;c;c; c", 13);
        due(0, "t;t;t;t;t;t;t", 12);
        due(0, "t;t;t;t;t;t;p;c;t", 16);
        // tickets of sitters that are not told
        due(0, "ct1;p;t", 7);
        due(0, "ct1;p;t ", 8);
        due(0, "ct1;p;t;t", -1);
        due(0, "t;t;ct2;p", 9);
        due(0, "c;ct5;p;t;t;t;t;t", 17);
        // other bytes
        due(0, "p\u00e9", 1);
        due(0, "p\t", 1);
        due(0, "p;c;t\u00ff", 5);
    }

    private static void laws() {
        due(1, "y:1", -1);
        due(1, " y : 1 ", -1);
        due(1, "", 0);
        due(1, "  ", 2);
        due(1, "x", 0);
        due(1, "y", 1);
        due(1, "y1", 1);
        due(1, "y:", 2);
        due(1, "y:;", 2);
        due(1, "y:1;", 4);
        due(1, "y:1;y", 5);
        due(1, "y:1;;", 4);
        due(1, "y:1;y:2;y:3", -1);
        due(1, "y:1234", -1);
        due(1, "y:0000", -1);
        due(1, "y:12345", 6);
        due(1, "y:12 3", 5);
        due(1, "y:f", -1);
        due(1, "y:ff", 3);
        due(1, "y:g", 2);
        due(1, "y:F", 2);
        due(1, "y:f+", 4);
        due(1, "y:f+-", 4);
        due(1, "y:-1", 2);
        due(1, "y:f+h*d/n-k+e", -1);
        due(1, "y:[f", 4);
        due(1, "y:[f]", -1);
        due(1, "y:[f]]", 5);
        due(1, "y:[]", 3);
        due(1, "y:[f=1]", 4);
        due(1, "y:[f?1]", 4);
        due(1, "y:[(1", 3);
        due(1, "y:[!1", 3);
        due(1, "y:f[1]", 3);
        due(1, "y:f?1", 3);
        due(1, "y:f)", 3);
        due(1, "y:f]", 3);
        due(1, "y:f&1", 3);
        due(1, "y:f|1", 3);
        due(1, "y:f=1", 5);
        due(1, "y:f=1;", 5);
        due(1, "y:f=1=1", 5);
        due(1, "y:f=1?", 6);
        due(1, "y:f=1?2", -1);
        due(1, "y:f=1?2?3", 7);
        due(1, "y:f=1?2=3", 7);
        due(1, "y:f=1?(2", 6);
        due(1, "y:f=1?!2", 6);
        due(1, "y:f=1?;", 6);
        due(1, "y:f=1)?2", 5);
        due(1, "y:f=!1", 4);
        due(1, "y:f=(1", 4);
        due(1, "y:f+(1", 4);
        due(1, "y:f=1&h<2|d>3?4", -1);
        due(1, "y:f=1&h", 7);
        due(1, "y:f=1&h?", 7);
        due(1, "y:f=1&;", 6);
        due(1, "y:f=1&&", 6);
        due(1, "y:f=1&!(h=2|!d=1)?4", -1);
        due(1, "y:(f=1)?4", -1);
        due(1, "y:(f=1)", 7);
        due(1, "y:(f=1);", 7);
        due(1, "y:(f=1)+1", 7);
        due(1, "y:(f=1)=1", 7);
        due(1, "y:(f=1))", 7);
        due(1, "y:(f=1]", 6);
        due(1, "y:(f=1?", 6);
        due(1, "y:(f=1;", 6);
        due(1, "y:(f)", 4);
        due(1, "y:(f", 4);
        due(1, "y:(f;", 4);
        due(1, "y:(f+1)*2", 6);
        due(1, "y:()", 3);
        due(1, "y:!f", 4);
        due(1, "y:!f;", 4);
        due(1, "y:!f?", 4);
        due(1, "y:!f=1?2", -1);
        due(1, "y:!", 3);
        due(1, "y:!)", 3);
        due(1, "y:!1=1&(2=2)|!(3=3)?[4+[5]]*6", -1);
        // six within one another
        due(1, "y:[[[[[[1]]]]]]", -1);
        due(1, "y:[[[[[[[1", 8);
        due(1, "y:((((((1=1))))))?1", -1);
        due(1, "y:(((((((1", 8);
        due(1, "y:!!!!!!1=1?1", -1);
        due(1, "y:!!!!!!!1", 8);
        due(1, "y:!(!(![1", 9);
        due(1, "y:!(!(![1]=[1]))?[[[[[[1]]]]]]", -1);
        due(1, "y:!(!(![[1", 8);
        due(1, "y:!!!!!!1=1&!!!!!!1=1?1", -1);
        due(1, "y:!!!!!(1=1)|!!!!!([1]", 19);
        due(1, "y:!!!!!!1=[1", 10);
        due(1, "y:[[[[[[1]]]]]]+[[[[[[2]]]]]]", -1);
        due(1, "y:!!!!!1=[[1", 10);
        due(1, "y:!!!!!1=[1]&[[[[[[1]]]]]]=1?1", -1);
    }

    private static void seasons() {
        due(2, "e0", -1);
        due(2, "e9;x99;i9", -1);
        due(2, " e 1 ; x 2 3 ; i 4 ", -1);
        due(2, "", 0);
        due(2, " ", 1);
        due(2, "e", 1);
        due(2, "e ", 2);
        due(2, "ee", 1);
        due(2, "e01", 2);
        due(2, "e0 1", 3);
        due(2, "x0", 2);
        due(2, "x0;", 2);
        due(2, "x012", 3);
        due(2, "i", 1);
        due(2, "e0;", 3);
        due(2, "e0;;", 3);
        due(2, "e0e1", 2);
        due(2, "p0", 0);
        StringBuilder sixteen = new StringBuilder("e0");
        for (int i = 1; i < 16; i++) {
            sixteen.append(";i1");
        }
        due(2, sixteen.toString(), -1);
        due(2, sixteen + " ", -1);
        due(2, sixteen + ";", 47);
        due(2, sixteen + " ;e0", 48);
        due(2, sixteen + "x", 47);
    }

    /** Short ends, one of which makes any text whole that can go on. */
    private static boolean canGoOn(String text, int sort) {
        if (sort == 2) {
            for (String end : new String[] {"", "0", "00", "e0"}) {
                if (fault(text + end, sort) == -1) {
                    return true;
                }
            }
            return false;
        }
        for (String first : new String[] {"", "1", ":1", "y:1"}) {
            for (int brackets = 0; brackets < 3; brackets++) {
                for (String compare : new String[] {"", "=1"}) {
                    for (int rounds = 0; rounds < 3; rounds++) {
                        for (String last : new String[] {"", "?1"}) {
                            String end = first + "]".repeat(brackets) + compare + ")".repeat(rounds) + last;
                            if (fault(text + end, sort) == -1) {
                                return true;
                            }
                        }
                    }
                }
            }
        }
        return false;
    }

    /** Texts grown sign by sign: a sign goes on just if some end makes the text whole. */
    private static void goOn(int sort, Random r, String signs) {
        for (int i = 0; i < 60; i++) {
            String text = "";
            for (int n = 0; n < 14; n++) {
                String longer = text;
                for (int j = 0; j < 3; j++) {
                    longer = text + signs.charAt(r.nextInt(signs.length()));
                    boolean deep = longer.replaceAll("[^(\\[]", "").length() > 2;
                    if (deep) {
                        longer = text;
                        continue;
                    }
                    boolean goesOn = canGoOn(longer, sort);
                    int fault = fault(longer, sort);
                    checks++;
                    if (goesOn != (fault == -1 || fault == longer.length())) {
                        wrong++;
                        System.out.println("fault(" + sort + ") of '" + longer + "' answered " + fault
                            + ", but it can" + (goesOn ? "" : "'t") + " go on");
                    }
                    if (!goesOn && fault != longer.length() - 1) {
                        wrong++;
                        System.out.println("fault(" + sort + ") of '" + longer + "' answered " + fault
                            + ", due is its last byte");
                    }
                    if (goesOn) {
                        break;
                    }
                    longer = text;
                }
                text = longer;
            }
        }
    }
}
