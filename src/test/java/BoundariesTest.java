import java.io.IOException;
import java.nio.file.Path;

/**
 * Each sentence of the document that names a boundary (too small, too large, empty, full, a
 * wrap-around, a refused call) with a test of its own: the sentence is quoted, and looked for in the
 * document, ahead of the answers that it makes due. The terms' other sentences are quoted by
 * Definitions. At the end no promise and no term has words unquoted.
 */
public final class BoundariesTest {
    private static final Check CHECK = new Check("BoundariesTest");
    private static final int MIN = Integer.MIN_VALUE;
    private static final int MAX = Integer.MAX_VALUE;
    private static final int NONE = -1;
    private static final int NO_FRACTION = -1000000;
    private static final long NO_NUMBER = Long.MIN_VALUE;
    private static final long LARGEST = 1000000000000L;

    // MEMBERS as rows: 012 021 102 120 201 210; MARKS: 6 0 0 0, 3 1 0 0, 2 0 2 0, 1 1 1 1.
    private static final String THREE = "places 3;move 1 2 0;move 1 0 2;";
    private static final String FOUR = "places 4;move 1 2 3 0;move 1 0 2 3;";
    private static final String TWO = "places 2;move 1 0;";
    // 16 MEMBERS, 35 SUBGROUPS, 27 SORTS: no group here has more of the latter two.
    private static final String MOST = "places 6;move 1 2 3 0 4 5;move 2 1 0 3 4 5;move 0 1 2 3 5 4;";

    // What is no MEMBER, SORT or PLACE of THREE; rows of 24 or 27, 32 bits and such ends are among it.
    private static final int[] NO_MEMBERS = {-1, 6, 7, 23, 24, 25, 31, 32, 33, 64, -32, MIN, MIN + 1, MAX};
    private static final int[] NO_SORTS = {-1, 4, 5, 26, 27, 28, 31, 32, 33, 64, -27, -32, MIN, MIN + 1, MAX};
    private static final int[] NO_PLACES = {-1, 3, 4, 5, 6, 7, 8, 32, 33, -32, MIN, MIN + 1, MAX};
    private static final int[] NO_PRIMES = {-5, -3, -2, -1, 0, 1, 4, 6, 7, 11, MIN, MAX};

    private static Document document;
    private static String title = "";

    private interface Call {
        long of(int argument);
    }

    private static void says(String part, String words) {
        title = part + " \"" + words + "\"";
        CHECK.holds(title + " stands in the document", document.quote(part, words));
    }

    private static void due(String call, long got, long due) {
        CHECK.same(title + ": " + call, got, due);
    }

    private static void refuses(String call, long due, int[] arguments, Call asked) {
        for (int argument : arguments) {
            due(call + " of " + argument, asked.of(argument), due);
        }
    }

    private static TroupeSums told(String text) {
        return Texts.told(text);
    }

    private static long makes(TroupeSums x, String text) {
        Texts.put(x, text);
        return x.makes();
    }

    private static long marks(TroupeSums x, String text) {
        Texts.put(x, text);
        return x.marks();
    }

    private static void sum(TroupeSums x, long... numbers) {
        due("about(5)", x.about(5), numbers.length);
        for (int i = 0; i < numbers.length; i++) {
            due("has(" + i + ")", x.has(i), numbers[i]);
        }
    }

    private static void right(String text, int members) {
        TroupeSums x = new TroupeSums();
        Texts.put(x, text);
        due("troupe of " + text, x.troupe(), members);
        due("fault(0) of " + text, x.fault(0), 0);
    }

    private static void fault(String text, int kind, int place) {
        TroupeSums x = new TroupeSums();
        Texts.put(x, text);
        due("troupe of " + text, x.troupe(), NONE);
        due("fault(0) of " + text, x.fault(0), kind);
        due("fault(1) of " + text, x.fault(1), place);
    }

    /** An E that is right, whose SUM is so many times 1. */
    private static void value(String text, long number) {
        TroupeSums x = told("places 1;let a=3;");
        due("makes of " + text, makes(x, text), number == 0 ? 0 : 1);
        due("has(0) behind " + text, x.has(0), number);
    }

    private static void wrongValue(String text, int kind, int place) {
        TroupeSums x = told("places 1;let a=3;");
        due("makes of " + text, makes(x, text), NONE);
        due("fault(0) of " + text, x.fault(0), kind);
        due("fault(1) of " + text, x.fault(1), place);
    }

    private static String times(int n, String text, String between) {
        return (text + between).repeat(n - 1) + text;
    }

    private static void calls() {
        says("What it is", "An object is used for at most 512 calls after it has been made");
        Both both = new Both(CHECK, title);
        both.put(MOST + "let a=sort 3*sort 5-2;");
        both.call("troupe");
        for (int n = both.calls; n < 500; n++) {
            both.call("grows", -1, 1, n % 27);
        }
        both.call("uses", 0);
        both.call("undo");
        both.put("places 3;move 1 2 0;");
        both.call("troupe");
        both.call("take", 2, 6);
        both.call("has", 0);
        both.call("has", 1);
        both.call("local", 3, 1, 0, 0);
        both.call("local", 3, 1, 0, 1);
        both.call("about", 7);
        both.call("undo");
        due("calls", both.calls, 512);
    }

    // ---- 1. a TROUPE

    private static void texts() {
        says("1", "A TROUPE is a text of at most 700 bytes");
        right(TWO + " ".repeat(700 - TWO.length()), 2);
        right("\n".repeat(700 - TWO.length()) + TWO, 2);
        right("places 1;" + " ".repeat(700 - 17) + "let a=1;", 1);
        fault("places 1;" + " ".repeat(690) + "x", 2, 699);
        fault("places 1;" + " ".repeat(690) + "#", 1, 699);
        fault("places 1" + " ".repeat(692), 2, 700);
        says("1", "places N ; {move N {N} ;} {let NAME = E ;}.");
        right("places 1;", 1);
        right("places 1;let a=1;", 1);
        right("places 1;move 0;", 1);
        right("places 1;move 0;let a=1;", 1);
        fault("", 2, 0);
        fault("let a=1;", 2, 0);
        fault("move 0;", 2, 0);
        fault("places 1;let a=1;move 0;", 2, 17);
        fault("places 1;places 1;", 2, 9);
        fault("places 1", 2, 8);
        fault("places 1;move 0", 2, 15);
        fault("places 1;let a=1", 2, 16);
        fault("places 1;let a=1;;", 2, 17);
        fault("places 1;let a=1;let", 2, 20);
        says("1", "so many PLACES (1 .. 6; numbers 0 ..)");
        fault("places 0;", 4, 7);
        right("places 1;move 0;", 1);
        fault("places 1;move 1;", 4, 14);
        right("places 6;move 1 2 3 4 5 0;", 6);
        fault("places 6;move 1 2 3 4 5 6;", 4, 24);
        fault("places 7;", 4, 7);
        fault("places 999;", 4, 7);
    }

    private static void movesAndLets() {
        says("1", "move: a MOVE (4 at most)");
        right("places 2;" + "move 1 0;".repeat(4), 2);
        fault("places 2;" + "move 1 0;".repeat(5), 5, 9 + 36);
        right("places 2;" + "move 0 1;".repeat(3) + "move 1 0;", 2);
        fault("places 2;" + "move 0 1;".repeat(4) + "move", 5, 9 + 36);
        fault("places 2;" + "move 0 1;".repeat(4) + "move 7 7", 5, 9 + 36);
        says("1", "as many numbers as PLACES, unlike.");
        fault("places 2;move;", 2, 13);
        fault("places 2;move 1;", 2, 15);
        fault("places 2;move 1 0 1;", 2, 18);
        fault("places 2;move 1 1;", 4, 16);
        fault("places 6;move 0 1 2 3 4 0;", 4, 24);
        fault("places 6;move 5 4 3 2 1;", 2, 23);
        says("1", "let: a SUM gets a NAME (8 at most)");
        StringBuilder lets = new StringBuilder("places 1;");
        for (char name = 'a'; name <= 'h'; name++) {
            lets.append("let ").append(name).append("=1;");
        }
        right(lets.toString(), 1);
        due("NAMES", told(lets.toString()).about(2), 8);
        fault(lets + "let i=1;", 5, lets.length());
        fault(lets + " let a=b;", 5, lets.length() + 1);
        fault(lets + "let", 5, lets.length());
        fault(lets + "move 0;", 2, lets.length());
    }

    private static void powers() {
        says("1", "F ^ N (N 0 .. 9;");
        value("2^0", 1);
        value("0^0", 1);
        value("2^1", 2);
        value("2^9", 512);
        value("2^009", 512);
        wrongValue("2^10", 2, 2);
        wrongValue("2^999", 2, 2);
        wrongValue("2^1000", 1, 2);
        wrongValue("2^-1", 2, 2);
        wrongValue("2^a", 2, 2);
        wrongValue("2^(1)", 2, 2);
        wrongValue("2^", 2, 2);
        says("1", "ahead of a ^ stands N, sort N, a NAME or ( E ) alone, so - F ^ N is the - of F ^ N;");
        value("3^2", 9);
        value("sort 0^2", 1);
        value("a^2", 9);
        value("(2-5)^2", 9);
        value("-3^2", -9);
        value("--3^2", 9);
        value("(-3)^2", 9);
        value("2*3^2", 18);
        value("2+3^2", 11);
        value("-a^0", -1);
        wrongValue("^2", 2, 0);
        wrongValue("-^2", 2, 1);
        wrongValue("1+^2", 2, 2);
        wrongValue("(^2)", 2, 1);
        says("1", "no second ^ behind it)");
        wrongValue("2^3^2", 2, 3);
        wrongValue("(2^3^2)", 2, 4);
        wrongValue("(2)^3^2", 2, 5);
        value("(2^3)^2", 64);
        value("((2)^3)^2", 64);
        value("2^3*2^2", 32);
    }

    private static void units() {
        says("1", "(At most 30 units N, sort N, NAME, ( E ), - F in an E;");
        String[] thirty = {times(30, "1", "+"), times(30, "sort 0", "+"), times(30, "a", "+"), times(15, "(1)", "+"), times(15, "-1", "+"),
            times(30, "1^2", "+"), times(30, "sort 0^2", "+"), times(10, "-(1)", "+"), times(30, "1", "*")};
        long[] numbers = {30, 30, 90, 15, -15, 30, 30, -10, 1};
        for (int k = 0; k < thirty.length; k++) {
            value(thirty[k], numbers[k]);
            for (String unit : new String[] {"1", "sort 0", "a", "(1)", "-1", "sort 9", "sort", "(", "-"}) {
                wrongValue(thirty[k] + "+" + unit, 5, thirty[k].length() + 1);
            }
        }
        value("(" + times(29, "1", "+") + ")", 29);
        wrongValue("(" + times(30, "1", "+") + ")", 5, 59);
        value("-" + times(29, "1", "-"), -29);
        wrongValue("-" + times(30, "1", "-"), 5, 59);
        right("places 1;let a=" + thirty[0] + ";let b=" + thirty[2] + ";", 1);
        fault("places 1;let a=1;let b=" + thirty[0] + "+1;", 5, 23 + 60);
        says("1", "one within 6 others ( E ), - F at most.)");
        for (int signs = 0; signs < 128; signs++) {
            StringBuilder ahead = new StringBuilder();
            StringBuilder behind = new StringBuilder();
            for (int level = 0; level < 7; level++) {
                boolean bracket = (signs >> level & 1) == 0;
                ahead.append(bracket ? '(' : '-');
                behind.append(bracket ? ")" : "");
                if (level == 5) {
                    value(ahead + "2" + behind, Integer.bitCount(signs & 63) % 2 == 0 ? 2 : -2);
                }
            }
            for (String unit : new String[] {"1", "sort 0", "a", "(1)", "-1"}) {
                wrongValue(ahead + unit + behind, 5, 7);
            }
        }
        value("((((((1))))))+------1*((((((1))))))^2", 2);
        value("-(-(-(1+1)+1)+1)-1", -3);
        value("2-3*(2-3*(2-3*(2-3*(2-3*(2-3*(2-3*2))))))", -3280);
        value("2*3-(2*3-(2*3-(2*3-(2*3-(2*3-(2*3-1*2^2)*1)*1)*1)*1)*1)*1", 4 - 2);
        wrongValue("((((((1))))))+-------1", 5, 21);
    }

    private static void tokens() {
        says("1", "TOKENS: words (a .. z, 6 at most), numbers (1 to 3 digits), the signs = + - * ^ ( ) ;.");
        for (int b = 0; b < 256; b++) {
            boolean blank = b == 32 || b == 10;
            boolean token = b >= 'a' && b <= 'z' || b >= '0' && b <= '9' || b < 128 && "=+-*^();".indexOf(b) >= 0;
            if (blank) {
                right("places 1;" + (char) b, 1);
            } else {
                fault("places 1;" + (char) b, token ? 2 : 1, 9);
            }
        }
        right("places 1;let abcxyz=1;", 1);
        fault("places 1;let abcwxyz=1;", 1, 13);
        fault("places 1;let a=abcdefg;", 1, 15);
        value("0", 0);
        value("999", 999);
        value("000", 0);
        wrongValue("1000", 1, 0);
        wrongValue("0000", 1, 0);
        says("1", "Blanks (32, 10) part them or not;");
        right("places2;move1 0;let a=1*sort0;", 2);
        right(" \n places \n 2 ; move 1\n0 ;\nlet\na = 1 * sort 0 ; \n", 2);
        fault("places\t2;", 1, 6);
        fault("places\r2;", 1, 6);
        says("1", "each is as long as can be;");
        fault("places 2;move 10;", 4, 14);
        fault("places 1;leta=1;", 2, 9);
        fault("places 1;let a=1;letb", 2, 17);
        right("places 1;let leta=1;let lets=leta;", 1);
        wrongValue("sorta", 3, 0);
        value("1-1", 0);
        says("1", "no letter directly behind a digit");
        wrongValue("1a", 1, 0);
        wrongValue("12z", 1, 0);
        wrongValue("1 a", 2, 2);
        wrongValue("a1", 2, 1);
        value("sort0", 1);
        wrongValue("sort0a", 1, 4);
        fault("places 1;move 0let a=1;", 1, 14);
        says("1", "(what is none of these, a longer word, more digits, a number with a letter behind it is no TOKEN, at its first byte).");
        wrongValue("1+#", 1, 2);
        wrongValue("1+abcdefg", 1, 2);
        wrongValue("1+abcdefghijklmnopqrstuvwxyz", 1, 2);
        wrongValue("1+1234", 1, 2);
        wrongValue("1+4294967297", 1, 2);
        wrongValue("1+18446744073709551617", 1, 2);
        wrongValue("1+123a", 1, 2);
        wrongValue("1+1234a", 1, 2);
        says("1", "NAMES: words but places, move, let, sort.");
        for (String word : new String[] {"places", "move", "let", "sort"}) {
            fault("places 1;let " + word + "=1;", 2, 13);
            fault("places 1;let a=" + word + ";", 2, word.equals("sort") ? 19 : 15);
        }
        right("places 1;let a=1;let aa=1;let aaa=1;let aaaa=1;let az=1;let ba=1;let zz=1;let aza=1;", 1);
        fault("places 1;let a=1;let aa=1;let b=aaa;", 3, 32);
        wrongValue("aa", 3, 0);
        wrongValue("aaaaaa", 3, 0);
        for (String word : new String[] {"place", "moves", "lets", "sorts", "le", "sor", "mov", "a", "z", "zzzzzz", "blaces", "placed", "love", "mode", "bet", "les", "port", "sore"}) {
            right("places 1;let " + word + "=1;let b=" + word + ";", 1);
        }
    }

    private static void faults() {
        says("1", "FAULTS, the first by its place (bytes from 0; the end: the text's length), at one place the least:");
        fault("#", 1, 0);
        fault("\n", 2, 1);
        fault("places 1; \n#", 1, 11);
        fault("places 1;let a=b#;", 3, 15);
        fault("places 1;let a=999^5;#", 6, 9);
        fault("places 5;move 1 2 3 4 0;move 1 0 2 3 4;#", 5, 24);
        String full = "places 1;let a=" + times(30, "1", "+") + "+";
        fault(full + "#;", 1, full.length());
        fault(full + "1a;", 1, full.length());
        fault(full + ");", 2, full.length());
        fault(full + ";", 2, full.length());
        fault(full, 2, full.length());
        fault(full + "b;", 3, full.length());
        fault(full + "1;", 5, full.length());
        fault("places 1;let a=-------b;", 3, 22);
        fault("places 1;let a=(((((((;", 2, 22);
        says("1", "1 no TOKEN;");
        fault("places #", 1, 7);
        fault("places 1;move 0 #;", 1, 16);
        says("1", "2 one that can't stand there (a number of a move too many, too few: there);");
        fault("blaces 1;", 2, 0);
        fault("places 1;love 0;", 2, 9);
        fault("places 1;bet a=1;", 2, 9);
        fault("places 1;let a=port 0;", 3, 15);
        fault("places;", 2, 6);
        fault("places (", 2, 7);
        fault("places a;", 2, 7);
        fault("places 1 1;", 2, 9);
        fault("places 1;let;", 2, 12);
        fault("places 1;let 1=1;", 2, 13);
        fault("places 1;let a 1;", 2, 15);
        fault("places 1;let a==1;", 2, 15);
        fault("places 1;let a=;", 2, 15);
        fault("places 1;let a=sort;", 2, 19);
        fault("places 1;let a=sort a;", 2, 20);
        fault("places 1;let a=();", 2, 16);
        fault("places 1;let a=(1;", 2, 17);
        fault("places 1;let a=1);", 2, 16);
        fault("places 1;let a=1+;", 2, 17);
        fault("places 1;let a=*1;", 2, 15);
        fault("places 1;let a=1**1;", 2, 17);
        fault("places 1;let a=+1;", 2, 15);
        fault("places 1;let a=-;", 2, 16);
        fault("places 3;move 1 2 0 0;", 2, 20);
        fault("places 3;move 1 2 0 9;", 2, 20);
        fault("places 3;move 1 2;", 2, 17);
        fault("places 3;move 1 2", 2, 17);
        fault("places 3;move;", 2, 13);
        says("1", "3 a NAME told already (let), that is not told (in E);");
        fault("places 1;let a=1;let a=1;", 3, 21);
        fault("places 1;let a=a;", 3, 15);
        fault("places 1;let a=b;let b=1;", 3, 15);
        right("places 1;let a=1;let b=a;", 1);
        says("1", "4 a number that can't be (places, a PLACE, one that is there already in the move, a SORT that there is not);");
        fault("places 0;", 4, 7);
        fault("places 7;", 4, 7);
        fault("places 3;move 0 1 3;", 4, 18);
        fault("places 3;move 0 1 0;", 4, 18);
        fault("places 1;let a=sort 1;", 4, 20);
        right(MOST + "let a=sort 26;", 16);
        fault(MOST + "let a=sort 27;", 4, MOST.length() + 11);
        fault(MOST + "let a=sort 32;", 4, MOST.length() + 11);
    }

    private static void faultsOfMany() {
        says("1", "5 one too many: a MOVE, a NAME, a MOVE by which the GROUP has more than 24 MEMBERS "
                + "(at the word; the last of these, if all else of the line is right)");
        right(FOUR, 24);
        right("places 5;move 1 2 0 3 4;move 1 0 2 3 4;move 0 1 2 4 3;", 12);
        right("places 6;move 1 2 0 3 4 5;move 1 0 3 2 4 5;move 0 1 2 3 5 4;", 24);
        fault("places 5;move 1 2 3 4 0;move 1 0 2 3 4;", 5, 24);
        fault("places 5;move 1 2 3 4 0;move 0 1 2 3 4;move 1 2 0 3 4;", 5, 39);
        fault("places 6;move 1 2 0 3 4 5;move 0 1 2 4 5 3;move 3 4 5 0 1 2;move 1 0 2 3 4 5;", 5, 60);
        fault("places 5;move 1 2 3 4 0;move 1 0 2 3 4 4;", 2, 39);
        fault("places 5;move 1 2 3 4 0;move 1 0 2 3 5;", 4, 37);
        fault("places 5;move 1 2 3 4 0;move 1 0 2 3 4", 2, 38);
        fault("places 5;move 1 2 3 4 0;move 1 0 2 3 4#", 1, 38);
        says("1", "a 31st unit, one within 7 others (at its first TOKEN);");
        wrongValue(times(31, "sort 9", "+"), 4, 5);
        wrongValue(times(30, "sort 0", "+") + "+sort 9", 5, 7 * 30);
        wrongValue("(((((((sort 9", 5, 7);
        wrongValue("((((((sort 9", 4, 11);
        wrongValue("-------(1)", 5, 7);
    }

    private static void faultsOfSize() {
        says("1", "6 a SUM one of whose numbers or MARKS, on the way, too, is above 1,000,000,000,000 or below that with its sign "
                + "(at the word let, if all else of the line is right).");
        value("10^9*10^3", LARGEST);
        value("-10^9*10^3", -LARGEST);
        value("10^9*999+10^9", LARGEST);
        wrongValue("10^9*10^3+1", 6, 0);
        wrongValue("-10^9*10^3-1", 6, 0);
        wrongValue("10^9*10^3+1-1", 6, 0);
        wrongValue("(10^9*10^3+1)*0", 6, 0);
        wrongValue("0*(10^9*10^3+1)", 6, 0);
        wrongValue("(10^9*10^3+1)^0", 6, 0);
        wrongValue("999^9*0", 6, 0);
        wrongValue("-(10^9*10^3+1)+2", 6, 0);
        // 2 ^ 32 times itself would be 0 in 64 bits, 3 * 2 ^ 62 times 4 likewise
        wrongValue("(2^9*2^9*2^9*2^5)^2", 6, 0);
        wrongValue("(2^9*2^9*2^9*2^5)^4", 6, 0);
        wrongValue("(10^9*10^3)^9", 6, 0);
        wrongValue("(10^9*10^3)*(10^9*10^3)", 6, 0);
        wrongValue("10^9*10^3+1 1", 2, 12);
        wrongValue("10^9*10^3+1;", 2, 11);
        wrongValue("10^9*10^3+b", 3, 10);
        fault("places 1; let a=1;  let b=10^9*10^3+1;", 6, 20);
        fault("places 1; let b=10^9*10^3+1", 2, 27);
        fault("places 1; let b=10^9*10^3+1 #", 1, 28);
        // the MARK is twice the number
        right(THREE + "let a=sort 2*500*10^9;", 6);
        right(THREE + "let a=-sort 2*500*10^9;", 6);
        right(THREE + "let a=sort 2*500*10^9-1;", 6);
        fault(THREE + "let a=sort 2*500*10^9+1;", 6, THREE.length());
        fault(THREE + "let a=-sort 2*500*10^9-1;", 6, THREE.length());
        // the MARK is 6 times the number, and the powers on the way are looked at
        right(THREE + "let a=sort 0^9;", 6);
        fault(FOUR + "let a=sort 0^9;", 6, FOUR.length());
        right(FOUR + "let a=sort 0^8;", 24);
        fault(FOUR + "let a=sort 0^9-sort 0^9;", 6, FOUR.length());
    }

    // ---- 2. the GROUP, 3. THE SUM

    private static void terms() {
        says("2", "all that comes of MOVES done one behind the other (each MEMBER a row of where PLACES go; the one that moves nothing, too).");
        due("MEMBERS without MOVES", told("places 6;").about(3), 1);
        due("MEMBERS of moves of nothing", told("places 2;move 0 1;move 0 1;").about(3), 1);
        due("MEMBERS of one move", told("places 6;move 1 2 3 4 5 0;").about(3), 6);
        says("2", "MEMBERS are numbered from 0 on as rows in a dictionary. a TIMES b: first a is done, then b.");
        TroupeSums x = told(THREE);
        int[] rows = {12, 21, 102, 120, 201, 210};
        for (int m = 0; m < 6; m++) {
            due("row " + m, x.moves(m, 0) * 100 + x.moves(m, 1) * 10 + x.moves(m, 2), rows[m]);
        }
        due("1 TIMES 2", x.times(1, 2), 3);
        due("2 TIMES 1", x.times(2, 1), 4);
        says("2", "told as bits by their numbers (with 0 always)");
        for (int bits = 0; bits < 64; bits++) {
            due("0 in what " + bits + " makes", x.makesOf(bits) & 1, 1);
        }
        says("2", "The FIRST of a SORT is that with the least bits. SORTS are numbered from 0 on by how many MEMBERS their SUBGROUPS have, "
                + "the fewest first, of like ones by the bits of their FIRST ones.");
        due("of 3, 5 and 33", x.sort(1, 2), 3);
        TroupeSums most = told(MOST);
        for (int i = 1; i < 27; i++) {
            int more = most.sort(i, 0) - most.sort(i - 1, 0);
            CHECK.holds(title + ": " + i, more > 0 || more == 0 && most.sort(i, 2) > most.sort(i - 1, 2));
        }
        due("the first SORT", most.sort(0, 2), 1);
        due("the last SORT", most.sort(26, 2), 65535);
        says("2", "N: N of the last SORT, 0 of others. sort N: 1 of that, 0 of others.");
        makes(x, "999");
        sum(x, 0, 0, 0, 999);
        makes(x, "sort 0");
        sum(x, 1, 0, 0, 0);
        makes(x, "sort 3");
        sum(x, 0, 0, 0, 1);
        says("2", "^: so many of these multiplied (none: 1 of the last SORT).");
        makes(x, "sort 0^0");
        sum(x, 0, 0, 0, 1);
        makes(x, "0^0");
        sum(x, 0, 0, 0, 1);
        makes(x, "sort 0^1");
        sum(x, 1, 0, 0, 0);
        makes(x, "sort 0^9");
        sum(x, 1679616, 0, 0, 0);
        says("2", "UNITS are numbered from 0 on by their MARKS, SORT by SORT, 1 ahead of -1.");
        due("the first one", x.unit(0, 3), 1);
        due("the last one", x.unit(7, 3), -1);
        for (int k = 1; k < 8; k++) {
            CHECK.holds(title + ": " + k, isBehind(marksOf(x, k - 1, 4), marksOf(x, k, 4)));
        }
        unitsInTurn();
    }

    /** All 1024 UNITS of 27 SORTS, of a new object for each, which is asked 27 * 8 times at most. */
    private static void unitsInTurn() {
        int[] ahead = null;
        for (int k = 0; k < 1024; k++) {
            int[] marks = marksOf(told(MOST), k, 27);
            CHECK.holds(title + ", of 27 SORTS: " + k, ahead == null || isBehind(ahead, marks));
            ahead = marks;
        }
    }

    /** The MARKS of the k-th UNIT: of THE SUM that becomes it. */
    private static int[] marksOf(TroupeSums x, int k, int sorts) {
        x.grows(0, 0, 0);
        for (int i = 0; i < sorts; i++) {
            x.grows(1, x.unit(k, i), i);
        }
        int[] marks = new int[sorts];
        for (int j = 0; j < sorts; j++) {
            marks[j] = (int) x.marked(j);
            due("a MARK of unit " + k + ", times itself", marks[j] * marks[j], 1);
        }
        return marks;
    }

    /** Whether the first MARK that is not the same is -1 behind 1. */
    private static boolean isBehind(int[] ahead, int[] marks) {
        for (int j = 0; j < marks.length; j++) {
            if (marks[j] != ahead[j]) {
                return marks[j] == -1 && ahead[j] == 1;
            }
        }
        return false;
    }

    private static void keeping() {
        says("3", "THE SUM: 0 of each SORT at first, and behind troupe().");
        sum(new TroupeSums(), 0);
        TroupeSums x = told(TWO);
        sum(x, 0, 0);
        makes(x, "sort 0+2");
        for (int n = 0; n < 4; n++) {
            makes(x, "sort 0+2");
            Texts.put(x, n % 2 == 0 ? TWO : "places 1;");
            x.troupe();
            due("has(0) behind troupe " + n, x.has(0), 0);
            due("has(1) behind troupe " + n, x.has(1), n % 2 == 0 ? 0 : NO_NUMBER);
            due("undo behind troupe " + n, x.undo(), NONE);
        }
        says("3", "ACTS by which it changes: makes(), take(), marks(), uses(), grows().");
        x = told(TWO + "let a=5;");
        makes(x, "1");
        x.take(0, 0);
        marks(x, "2 0");
        x.uses(0);
        x.grows(1, 1, 0);
        due("about(7)", x.about(7), 5);
        sum(x, 1, 5);
        says("3", "UNDO takes back the latest that was not; 12 are kept, the oldest go.");
        long[][] before = {{0, 5}, {1, 0}, {1, 0}, {0, 1}, {0, 0}};
        for (int n = 0; n < 5; n++) {
            due("undo", x.undo(), 4 - n);
            sum(x, before[n]);
        }
        due("undo of nothing", x.undo(), NONE);
        for (int n = 1; n <= 12; n++) {
            x.grows(1, 1, 1);
            due("about(7) behind " + n, x.about(7), n);
        }
        x.grows(1, 1, 1);
        due("about(7) behind 13", x.about(7), 12);
        for (int n = 11; n >= 0; n--) {
            due("undo", x.undo(), n);
        }
        due("has(1), the oldest gone", x.has(1), 1);
        due("undo of what is gone", x.undo(), NONE);
        keepingRound(x);
    }

    /** Undone and done again, past the end of what is kept, a few times round. */
    private static void keepingRound(TroupeSums x) {
        long[] sums = new long[100];
        int kept = 0;
        sums[0] = x.has(1);
        for (int step = 0; step < 80; step++) {
            if (step % 7 < 4 || kept == 0) {
                if (kept == 12) {
                    System.arraycopy(sums, 1, sums, 0, 12);
                    kept--;
                }
                kept++;
                sums[kept] = x.grows(1, step + 1, 1);
            } else {
                kept--;
                due("undo at step " + step, x.undo(), kept);
            }
            due("has(1) at step " + step, x.has(1), sums[kept]);
            due("about(7) at step " + step, x.about(7), kept);
        }
    }

    // ---- the promises

    private static void newObject() {
        says("Promise 1", "One PLACE, no MOVES, no NAMES (so one MEMBER, one SORT).");
        TroupeSums x = new TroupeSums();
        long[] about = {1, 0, 0, 1, 1, 1, 1, 0, 0};
        for (int what = 0; what < about.length; what++) {
            due("about(" + what + ")", x.about(what), about[what]);
        }
        due("moves(0, 0)", x.moves(0, 0), 0);
        due("moves(0, 1)", x.moves(0, 1), NONE);
        due("moves(1, 0)", x.moves(1, 0), NONE);
        due("makesOf(2)", x.makesOf(2), NONE);
        due("sort(0, 0)", x.sort(0, 0), 1);
        due("sort(1, 0)", x.sort(1, 0), NONE);
        due("named(0, 0)", x.named(0, 0), NO_NUMBER);
        due("uses(0)", x.uses(0), NONE);
        due("makes of 7", makes(x, "7"), 1);
        due("makes of sort 1", makes(x, "sort 1"), NONE);
        due("marks of 7", marks(x, "7"), 0);
        due("marks of 7 7", marks(x, "7 7"), -2);
    }

    private static void feed() {
        says("Promise 2", "Twenty bytes come behind those on the TAPE, of each number the highest first: how many there are;");
        TroupeSums x = new TroupeSums();
        due("feed", x.feed(0x706c6163, 0x65732032, 0x3b6d6f76, 0x65203120, 0x303b6c65), 20);
        due("feed", x.feed(0x7420613d, 0x736f7274, 0x20302a33, 0x3b202020, 0x20202020), 40);
        due("about(8)", x.about(8), 40);
        due("troupe", x.troupe(), 2);
        due("named(0, 0)", x.named(0, 0), 3);
        due("feed of bits all set", x.feed(-1, -1, -1, -1, -1), 20);
        due("makes", x.makes(), NONE);
        due("fault(0)", x.fault(0), 1);
        due("fault(1)", x.fault(1), 0);
        says("Promise 2", "NONE, and nothing comes, if there would be more than 700.");
        Texts.put(x, " ".repeat(680 - TWO.length()) + TWO);
        due("end(680)", x.end(680), 680);
        due("feed to 700", x.feed(0x20202020, 0x20202020, 0x20202020, 0x20202020, 0x20202020), 700);
        due("feed beyond", x.feed(0x23232323, 0, 0, 0, 0), NONE);
        due("about(8)", x.about(8), 700);
        due("troupe", x.troupe(), 2);
        for (int length : new int[] {681, 690, 699}) {
            Texts.put(x, " ".repeat(length - TWO.length()) + TWO);
            due("about(8)", x.about(8), length);
            due("feed beyond, from " + length, x.feed(0x23232323, 0x23232323, 0, 0, 0), NONE);
            due("about(8)", x.about(8), length);
            due("troupe", x.troupe(), 2);
        }
        due("feed when empty again", x.feed(0, 0, 0, 0, 0), 20);
    }

    private static void end() {
        says("Promise 3", "The TAPE has its first n bytes: n;");
        TroupeSums x = new TroupeSums();
        due("end(0) when empty", x.end(0), 0);
        x.feed(0x31323320, 0x20202020, 0x20202020, 0x20202020, 0x20202020);
        due("end of all", x.end(20), 20);
        due("end(2)", x.end(2), 2);
        due("about(8)", x.about(8), 2);
        due("makes", x.makes(), 1);
        due("has(0)", x.has(0), 12);
        x.feed(0x31323320, 0, 0, 0, 0);
        due("end(0)", x.end(0), 0);
        due("makes of nothing", x.makes(), NONE);
        due("fault(1)", x.fault(1), 0);
        cut("7abc", 1, 0, NONE, 7);
        cut("12345", 3, 0, NONE, 123);
        cut("1+    ", 2, 2, 2, 0);
        cut("1+    ", 4, 2, 4, 0);
        cut("      ", 0, 2, 0, 0);
        cut("sorts", 4, 2, 4, 0);
        cut("sort00", 5, 0, NONE, 1);
        cut("placeson", 6, 2, 0, 0);
        cut("abcdefg", 6, 3, 0, 0);
        cut("1^99", 3, 0, NONE, 1);
        cut("2^2^2", 3, 0, NONE, 4);
        cut("(2)^2", 3, 0, NONE, 2);
        says("Promise 3", "NONE, doing nothing, if it has not so many, or n is below 0.");
        due("end(1) when empty", x.end(1), NONE);
        x.feed(0x31323320, 0x20202020, 0x20202020, 0x20202020, 0x20202020);
        refuses("end", NONE, new int[] {-1, 21, 700, 701, MIN, MAX}, n -> x.end(n));
        due("about(8)", x.about(8), 20);
        due("makes", x.makes(), 1);
        due("has(0)", x.has(0), 123);
    }

    /** What stood behind the end is not read, though it was there. */
    private static void cut(String text, int n, int kind, int place, long number) {
        TroupeSums x = new TroupeSums();
        Texts.put(x, text);
        due("end(" + n + ") of " + text, x.end(n), n);
        due("makes", x.makes(), kind == 0 ? 1 : NONE);
        due("fault(0)", x.fault(0), kind);
        due("fault(1)", x.fault(1), place);
        due("has(0)", x.has(0), number);
    }

    private static void troupe() {
        says("Promise 4", "The TAPE (empty then, also at a FAULT) is the TROUPE (no ACTS are kept): how many MEMBERS;");
        right("places 1;", 1);
        right(FOUR, 24);
        TroupeSums x = told(THREE + "let a=sort 1;");
        makes(x, "a+2");
        Texts.put(x, TWO + "let b=3;");
        due("troupe", x.troupe(), 2);
        due("about(7)", x.about(7), 0);
        due("about(8)", x.about(8), 0);
        due("undo", x.undo(), NONE);
        due("named(0, 1)", x.named(0, 1), 3);
        due("uses(1)", x.uses(1), NONE);
        due("makes of a NAME that was", makes(x, "a"), NONE);
        due("its FAULT", x.fault(0), 3);
        sum(x, 0, 0);
        Texts.put(x, "places 2;move 1 1;");
        due("a FAULT", x.troupe(), NONE);
        due("about(8)", x.about(8), 0);
        troupesInTurn();
        says("Promise 4", "NONE: a FAULT (all else stays).");
        TroupeSums y = told(THREE + "let a=sort 1;let b=2;");
        makes(y, "a+2");
        y.grows(1, 1, 2);
        String[] wrong = {"", "#", "places 9;", "places 2;move 1 1;", "places 2;move 1 0;let c=7;let c=8;", "places 1;let a=999^9;",
            "places 5;move 1 2 3 4 0;move 1 0 2 3 4;", "places 2;move 1 0;let a=9;let b=8;let d=7;let e=sort 2;", FOUR + "let z=1;#"};
        for (String text : wrong) {
            Texts.put(y, text);
            due("troupe of " + text, y.troupe(), NONE);
            long[] about = {3, 2, 2, 6, 6, 4, 0, 2, 0};
            for (int what = 0; what < about.length; what++) {
                due("about(" + what + ") behind " + text, y.about(what), about[what]);
            }
            due("units", y.units(), 8);
            due("times(1, 2)", y.times(1, 2), 3);
            due("mark(1, 0)", y.mark(1, 0), 3);
            due("named(0, 1)", y.named(0, 1), 1);
            due("named(1, 3)", y.named(1, 3), 2);
            due("named(2, 0)", y.named(2, 0), NO_NUMBER);
            sum(y, 0, 1, 1, 2);
        }
        due("undo", y.undo(), 1);
        sum(y, 0, 1, 0, 2);
        due("makes of b", makes(y, "b*b"), 1);
    }

    /** Nothing of a TROUPE is there behind the next, a larger or a smaller one. */
    private static void troupesInTurn() {
        String[] texts = {MOST, THREE, "places 1;", FOUR, TWO, MOST};
        int[] members = {16, 6, 1, 24, 2, 16};
        int[] subgroups = {35, 6, 1, 30, 2, 35};
        int[] sorts = {27, 4, 1, 11, 2, 27};
        int[] units = {1024, 8, 2, 64, 4, 1024};
        TroupeSums x = new TroupeSums();
        for (int n = 0; n < texts.length; n++) {
            Texts.put(x, texts[n] + "let a=5;let b=a;");
            due("troupe of " + texts[n], x.troupe(), members[n]);
            due("NAMES", x.about(2), 2);
            due("SUBGROUPS", x.about(4), subgroups[n]);
            due("SORTS", x.about(5), sorts[n]);
            due("ACTS", x.about(7), 0);
            due("units", x.units(), units[n]);
            due("mark(0, 0)", x.mark(0, 0), members[n]);
            due("moves(0, 0)", x.moves(0, 0), 0);
            due("none behind the last MEMBER", x.order(members[n]), NONE);
            due("none behind the last SORT", x.sort(sorts[n], 0), NONE);
            due("parts", x.parts(), 0);
            due("uses(1)", x.uses(1), 1);
            due("uses(2)", x.uses(2), NONE);
            x.grows(1, 7, 0);
        }
    }

    private static void fault() {
        says("Promise 5", "Of the latest of troupe(), makes() what 0: its FAULT (0: without; ahead of any, too), 1: its place (NONE likewise).");
        TroupeSums x = new TroupeSums();
        due("fault(0) ahead of any", x.fault(0), 0);
        due("fault(1) ahead of any", x.fault(1), NONE);
        Texts.put(x, "places 8;");
        x.troupe();
        due("fault(0)", x.fault(0), 4);
        due("fault(1)", x.fault(1), 7);
        marks(x, "a");
        marks(x, "1");
        x.take(3, 0);
        x.uses(0);
        x.undo();
        x.end(99);
        due("fault(0) behind others", x.fault(0), 4);
        due("fault(1) behind others", x.fault(1), 7);
        due("makes", makes(x, "3"), 1);
        due("fault(0) without", x.fault(0), 0);
        due("fault(1) without", x.fault(1), NONE);
        due("makes", makes(x, "3 +"), NONE);
        due("fault(0)", x.fault(0), 2);
        due("fault(1)", x.fault(1), 3);
        Texts.put(x, TWO);
        x.troupe();
        due("fault(0) without", x.fault(0), 0);
        due("fault(1) without", x.fault(1), NONE);
        says("Promise 5", "NONE for another what.");
        refuses("fault", NONE, new int[] {-1, 2, 3, 32, MIN, MAX}, x::fault);
        makes(x, "#");
        refuses("fault", NONE, new int[] {-1, 2, 3, 32, MIN, MAX}, x::fault);
    }

    private static void about() {
        says("Promise 6", "What 0: PLACES, 1: MOVES, 2: NAMES, 3: MEMBERS, 4: SUBGROUPS, 5: SORTS, "
                + "6: 1 if a TIMES b is b TIMES a for all MEMBERS, else 0, 7: ACTS that can be undone, 8: bytes on the TAPE.");
        StringBuilder text = new StringBuilder(MOST);
        for (char name = 'a'; name <= 'h'; name++) {
            text.append("let ").append(name).append("=1;");
        }
        TroupeSums x = told(text.toString());
        for (int n = 0; n < 20; n++) {
            x.uses(n % 8);
        }
        Texts.put(x, " ".repeat(700));
        long[] most = {6, 3, 8, 16, 35, 27, 0, 12, 700};
        for (int what = 0; what < 9; what++) {
            due("about(" + what + ")", x.about(what), most[what]);
        }
        due("about(1)", told("places 2;" + "move 0 1;".repeat(4)).about(1), 4);
        due("about(3)", told(FOUR).about(3), 24);
        due("about(6) of what turns round", told("places 4;move 1 2 3 0;").about(6), 1);
        due("about(6) of THREE", told(THREE).about(6), 0);
        says("Promise 6", "NONE for another what.");
        refuses("about", NONE, new int[] {-1, 9, 10, 32, MIN, MAX}, x::about);
    }

    private static void members() {
        TroupeSums x = told(THREE);
        says("Promise 7", "Where a MEMBER takes a PLACE;");
        due("moves(0, 0)", x.moves(0, 0), 0);
        due("moves(5, 2)", x.moves(5, 2), 0);
        due("moves(23, 3)", told(FOUR).moves(23, 3), 0);
        due("moves(5, 5)", told("places 6;move 1 2 3 4 5 0;").moves(5, 5), 4);
        says("Promise 7", "NONE if there is none such.");
        refuses("moves(.., 0)", NONE, NO_MEMBERS, m -> x.moves(m, 0));
        refuses("moves(0, ..)", NONE, NO_PLACES, p -> x.moves(0, p));
        says("Promise 8", "a TIMES b;");
        due("times(0, 5)", x.times(0, 5), 5);
        due("times(5, 0)", x.times(5, 0), 5);
        due("times(5, 5)", x.times(5, 5), 0);
        says("Promise 8", "NONE if there are none such.");
        refuses("times(.., 0)", NONE, NO_MEMBERS, m -> x.times(m, 0));
        refuses("times(0, ..)", NONE, NO_MEMBERS, m -> x.times(0, m));
        says("Promise 9", "How often a MEMBER must be done till nothing is moved (1 ..);");
        due("order(0)", x.order(0), 1);
        due("order(5)", x.order(5), 2);
        due("order of 1 2 3 4 5 0", told("places 6;move 1 2 3 4 5 0;").order(1), 6);
        says("Promise 9", "NONE if there is none such.");
        refuses("order", NONE, NO_MEMBERS, x::order);
        says("Promise 26", "How many pairs of a MEMBER x and a MEMBER y there are for which x TIMES y is y TIMES x.");
        due("alike of one", new TroupeSums().alike(), 1);
        due("alike", x.alike(), 18);
        due("alike of 16", told("places 6;move 1 2 3 0 4 5;move 2 1 0 3 4 5;move 0 1 2 3 5 4;").alike(), 160);
        due("alike of 24", told(FOUR).alike(), 120);
        says("Promise 29", "How many MEMBERS must be done n (1 .. 24) times at least till nothing is moved (just n times, not fewer);");
        int[] orders = {1, 3, 2, 0, 0, 0};
        for (int n = 1; n <= 24; n++) {
            due("orders(" + n + ")", x.orders(n), n <= 6 ? orders[n - 1] : 0);
        }
        due("orders(6) of 1 2 3 4 5 0", told("places 6;move 1 2 3 4 5 0;").orders(6), 2);
        says("Promise 29", "NONE for another n.");
        refuses("orders", NONE, new int[] {-1, 0, 25, 26, 32, 33, MIN, MIN + 1, MAX}, x::orders);
        says("Promise 30", "How many MEMBERS are one turned by some MEMBER (as in 2; itself, too);");
        due("likes(0)", x.likes(0), 1);
        due("likes of one", new TroupeSums().likes(0), 1);
        due("likes(5)", x.likes(5), 3);
        due("likes where all are alike", told(TWO).likes(1), 1);
        says("Promise 30", "NONE if there is none such.");
        refuses("likes", NONE, NO_MEMBERS, x::likes);
    }

    private static void subgroups() {
        TroupeSums x = told(THREE);
        int[] noBits = {64, 65, 128, 1 << 24, 1 << 30, -1, -64, MIN, MIN + 1, MAX};
        says("Promise 10", "The SUBGROUP (bits) that MEMBERS told as bits make (none: that of 0 alone);");
        due("makesOf(0)", x.makesOf(0), 1);
        due("makesOf(1)", x.makesOf(1), 1);
        due("makesOf(32)", x.makesOf(32), 33);
        due("makesOf(63)", x.makesOf(63), 63);
        due("makesOf of all 24", told(FOUR).makesOf((1 << 24) - 1), (1 << 24) - 1);
        says("Promise 10", "NONE if bits tell of none such.");
        refuses("makesOf", NONE, noBits, x::makesOf);
        refuses("makesOf of 24", NONE, new int[] {1 << 24, 1 << 24 | 1, 1 << 31, -1, MAX}, told(FOUR)::makesOf);
        refuses("makesOf of one", NONE, new int[] {2, 3, 1 << 31, -1, MAX}, new TroupeSums()::makesOf);
        says("Promise 11", "The SORT of the SUBGROUP that MEMBERS told as bits make;");
        due("sortOf(0)", x.sortOf(0), 0);
        due("sortOf(32)", x.sortOf(32), 1);
        due("sortOf(63)", x.sortOf(63), 3);
        due("sortOf of all 24", told(FOUR).sortOf((1 << 24) - 1), 10);
        due("sortOf of all 16", told(MOST).sortOf((1 << 16) - 1), 26);
        says("Promise 11", "NONE likewise.");
        refuses("sortOf", NONE, noBits, x::sortOf);
        refuses("sortOf of 24", NONE, new int[] {1 << 24, 1 << 31, -1, MAX}, told(FOUR)::sortOf);
        says("Promise 12", "Of a SORT what 0: MEMBERS of its SUBGROUPS, 1: how many SUBGROUPS it has, 2: its FIRST (bits), 3: MEMBERS of NORM of that, "
                + "4: 1 if one MEMBER alone makes its FIRST, else 0, 5: 1 if x TIMES y is y TIMES x in it, else 0.");
        int[][] sorts = {{1, 1, 1, 6, 1, 1}, {2, 3, 3, 2, 1, 1}, {3, 1, 25, 6, 1, 1}, {6, 1, 63, 6, 0, 0}};
        for (int i = 0; i < 4; i++) {
            for (int what = 0; what < 6; what++) {
                due("sort(" + i + ", " + what + ")", x.sort(i, what), sorts[i][what]);
            }
        }
        TroupeSums four = told("places 4;move 1 0 2 3;move 0 1 3 2;");
        due("two twos, made by one", four.sort(4, 4), 0);
        due("two twos, x TIMES y", four.sort(4, 5), 1);
        says("Promise 12", "NONE if there is none such, or for another what.");
        refuses("sort(.., 0)", NONE, NO_SORTS, i -> x.sort(i, 0));
        refuses("sort(0, ..)", NONE, new int[] {-1, 6, 7, 32, MIN, MAX}, what -> x.sort(0, what));
        says("Promise 13", "How many SUBGROUPS of SORT i are parts of the FIRST of SORT j (itself, too);");
        for (int i = 0; i < 4; i++) {
            due("within(" + i + ", " + i + ")", x.within(i, i), 1);
            due("within(0, " + i + ")", x.within(0, i), 1);
            due("within(" + i + ", 3)", x.within(i, 3), sorts[i][1]);
        }
        due("within(1, 2)", x.within(1, 2), 0);
        due("within(3, 2)", x.within(3, 2), 0);
        says("Promise 13", "NONE if there are none such.");
        refuses("within(.., 0)", NONE, NO_SORTS, i -> x.within(i, 0));
        refuses("within(0, ..)", NONE, NO_SORTS, j -> x.within(0, j));
    }

    private static void sets() {
        TroupeSums x = told(THREE);
        TroupeSums most = told(MOST);
        says("Promise 14", "MARK of SORT i at SORT j;");
        due("mark(0, 0)", x.mark(0, 0), 6);
        due("mark(0, 3)", x.mark(0, 3), 0);
        due("mark(3, 3)", x.mark(3, 3), 1);
        due("mark(0, 0) of 24", told(FOUR).mark(0, 0), 24);
        due("mark(0, 26) of 27", most.mark(0, 26), 0);
        due("mark(26, 26) of 27", most.mark(26, 26), 1);
        says("Promise 14", "NONE if there are none such.");
        refuses("mark(.., 0)", NONE, NO_SORTS, i -> x.mark(i, 0));
        refuses("mark(0, ..)", NONE, NO_SORTS, j -> x.mark(0, j));
        refuses("mark(0, ..) of 27", NONE, new int[] {-1, 27, 28, 54}, j -> most.mark(0, j));
        says("Promise 15", "How many of SORT k the SUM sort i times sort j has;");
        due("product(0, 0, 0)", x.product(0, 0, 0), 6);
        due("product(3, 3, 3)", x.product(3, 3, 3), 1);
        due("product(0, 0, 3)", x.product(0, 0, 3), 0);
        due("product(26, 26, 26)", most.product(26, 26, 26), 1);
        says("Promise 15", "NONE if there are none such.");
        refuses("product(.., 0, 0)", NONE, NO_SORTS, i -> x.product(i, 0, 0));
        refuses("product(0, .., 0)", NONE, NO_SORTS, j -> x.product(0, j, 0));
        refuses("product(0, 0, ..)", NONE, NO_SORTS, k -> x.product(0, 0, k));
        says("Promise 16", "RESIDUE of a SORT by p;");
        int[][] residues = {{0, 0, 0}, {0, 1, 1}, {2, 0, 2}, {2, 3, 3}};
        int[][] blocks = {{3, 5, 1}, {3, 2, 2}, {12, 5, 4}, {12, 8, 8}};
        int[] primes = {2, 3, 5};
        for (int i = 0; i < 4; i++) {
            for (int p = 0; p < 3; p++) {
                due("residue(" + i + ", " + primes[p] + ")", x.residue(i, primes[p]), residues[i][p]);
            }
        }
        due("residue of 5 by 5", told("places 5;move 1 2 3 4 0;").residue(1, 5), 0);
        due("residue of 16 by 2", most.residue(26, 2), 0);
        due("residue of one", new TroupeSums().residue(0, 2), 0);
        says("Promise 16", "NONE if there is none such, p is none of 2, 3, 5.");
        refuses("residue(.., 2)", NONE, NO_SORTS, i -> x.residue(i, 2));
        refuses("residue(0, ..)", NONE, NO_PRIMES, p -> x.residue(0, p));
        says("Promise 17", "BLOCK of a SORT by p (bits of SORTS);");
        for (int i = 0; i < 4; i++) {
            for (int p = 0; p < 3; p++) {
                due("block(" + i + ", " + primes[p] + ")", x.block(i, primes[p]), blocks[i][p]);
            }
        }
        due("block of all 27", most.block(0, 2), (1 << 27) - 1);
        due("block of one of 27", most.block(26, 3), 1 << 26);
        due("block of one", new TroupeSums().block(0, 5), 1);
        says("Promise 17", "NONE likewise.");
        refuses("block(.., 2)", NONE, NO_SORTS, i -> x.block(i, 2));
        refuses("block(0, ..)", NONE, NO_PRIMES, p -> x.block(0, p));
    }

    private static void placesAndCosets() {
        TroupeSums x = told(THREE);
        TroupeSums six = told("places 6;move 1 2 0 3 4 5;");
        says("Promise 18", "MEMBERS (bits) that leave a PLACE where it is;");
        due("keeper(0)", x.keeper(0), 3);
        due("keeper(2)", x.keeper(2), 5);
        due("keeper of what all leave", six.keeper(5), 7);
        due("keeper of what one leaves", six.keeper(0), 1);
        says("Promise 18", "NONE if there is none such.");
        refuses("keeper", NONE, NO_PLACES, x::keeper);
        refuses("keeper of 6", NONE, new int[] {-1, 6, 7}, six::keeper);
        says("Promise 19", "PLACES (bits) to which MEMBERS take a PLACE;");
        due("orbit(0)", x.orbit(0), 7);
        due("orbit(2) of 6", six.orbit(2), 7);
        due("orbit(5) of 6", six.orbit(5), 32);
        says("Promise 19", "NONE if there is none such.");
        refuses("orbit", NONE, NO_PLACES, x::orbit);
        refuses("orbit of 6", NONE, new int[] {-1, 6, 7}, six::orbit);
        says("Promise 20", "The least MEMBER of the COSET of a MEMBER in the SET of a SORT;");
        int[] least = {0, 0, 2, 2, 4, 4};
        for (int m = 0; m < 6; m++) {
            due("coset(0, " + m + ")", x.coset(0, m), m);
            due("coset(1, " + m + ")", x.coset(1, m), least[m]);
            due("coset(3, " + m + ")", x.coset(3, m), 0);
        }
        says("Promise 20", "NONE if there is none such.");
        refuses("coset(.., 0)", NONE, NO_SORTS, i -> x.coset(i, 0));
        refuses("coset(0, ..)", NONE, NO_MEMBERS, m -> x.coset(0, m));
        says("Promise 21", "To which COSET of the SET of a SORT (its least MEMBER) MEMBER g takes that of a MEMBER;");
        for (int m = 0; m < 6; m++) {
            due("takes(1, " + m + ", 0)", x.takes(1, m, 0), least[m]);
            due("takes(3, " + m + ", 5)", x.takes(3, m, 5), 0);
            due("takes(0, " + m + ", 5)", x.takes(0, m, 5), x.times(m, 5));
        }
        due("takes(1, 5, 3)", x.takes(1, 5, 3), 0);
        says("Promise 21", "NONE if there is none such.");
        refuses("takes(.., 0, 0)", NONE, NO_SORTS, i -> x.takes(i, 0, 0));
        refuses("takes(0, .., 0)", NONE, NO_MEMBERS, m -> x.takes(0, m, 0));
        refuses("takes(0, 0, ..)", NONE, NO_MEMBERS, g -> x.takes(0, 0, g));
    }

    private static void more() {
        TroupeSums x = told(THREE);
        says("Promise 22", "MOEBIUS of a SORT: of the last SORT 1; of a SUBGROUP less those of all SUBGROUPS together of which it is a part (not itself), "
                + "which is the same for all of one SORT.");
        int[] moebius = {3, -1, -1, 1};
        for (int i = 0; i < 4; i++) {
            due("moebius(" + i + ")", x.moebius(i), moebius[i]);
        }
        due("moebius of one", new TroupeSums().moebius(0), 1);
        due("moebius(26) of 27", told(MOST).moebius(26), 1);
        says("Promise 22", "-1000000 if there is none such.");
        refuses("moebius", NO_FRACTION, NO_SORTS, x::moebius);
        says("Promise 23", "The SORT of the SUBGROUP that all x' TIMES y' TIMES x TIMES y make (x, y of the FIRST of a SORT; x', y' undo them);");
        int[] mixed = {0, 0, 0, 2};
        for (int i = 0; i < 4; i++) {
            due("mixed(" + i + ")", x.mixed(i), mixed[i]);
        }
        says("Promise 23", "NONE if there is none such.");
        refuses("mixed", NONE, NO_SORTS, x::mixed);
        says("Promise 24", "MEMBERS x (bits) of the FIRST of a SORT for which x TIMES y is y TIMES x for all y of it;");
        int[] centre = {1, 3, 25, 1};
        for (int i = 0; i < 4; i++) {
            due("centre(" + i + ")", x.centre(i), centre[i]);
        }
        says("Promise 24", "NONE if there is none such.");
        refuses("centre", NONE, NO_SORTS, x::centre);
        says("Promise 25", "The sum of all numbers of the SUM sort i times sort j;");
        due("pairs(0, 0)", x.pairs(0, 0), 6);
        due("pairs(3, 3)", x.pairs(3, 3), 1);
        due("pairs(1, 1)", x.pairs(1, 1), 2);
        due("pairs(0, 0) of 24", told(FOUR).pairs(0, 0), 24);
        says("Promise 25", "NONE if there are none such.");
        refuses("pairs(.., 0)", NONE, NO_SORTS, i -> x.pairs(i, 0));
        refuses("pairs(0, ..)", NONE, NO_SORTS, j -> x.pairs(0, j));
        says("Promise 27", "The SORT of the SUBGROUP of all MEMBERS that are in the FIRST of i and of j;");
        due("meet(3, 3)", x.meet(3, 3), 3);
        due("meet(1, 2)", x.meet(1, 2), 0);
        due("meet(1, 3)", x.meet(1, 3), 1);
        says("Promise 27", "NONE if there are none such.");
        refuses("meet(.., 0)", NONE, NO_SORTS, i -> x.meet(i, 0));
        refuses("meet(0, ..)", NONE, NO_SORTS, j -> x.meet(0, j));
        says("Promise 28", "The SORT of the SUBGROUP that the MEMBERS of the FIRST of i and of j make;");
        due("join(0, 0)", x.join(0, 0), 0);
        due("join(1, 2)", x.join(1, 2), 3);
        due("join(0, 2)", x.join(0, 2), 2);
        says("Promise 28", "NONE if there are none such.");
        refuses("join(.., 0)", NONE, NO_SORTS, i -> x.join(i, 0));
        refuses("join(0, ..)", NONE, NO_SORTS, j -> x.join(0, j));
    }

    private static void peaks() {
        TroupeSums x = told(THREE);
        int[] noWhat = {-1, 2, 3, 32, MIN, MAX};
        says("Promise 31", "The fraction of SORT i in PEAK of SORT j.");
        int[][] last = {{1, 2}, {-1, 1}, {-1, 2}, {1, 1}};
        for (int i = 0; i < 4; i++) {
            due("above in peak(3, " + i + ")", x.peak(3, i, 0), last[i][0]);
            due("below in peak(3, " + i + ")", x.peak(3, i, 1), last[i][1]);
        }
        due("none above", x.peak(0, 3, 0), 0);
        due("none below", x.peak(0, 3, 1), 1);
        due("of one, above", new TroupeSums().peak(0, 0, 0), 1);
        due("of one, below", new TroupeSums().peak(0, 0, 1), 1);
        due("of 24, below", told(FOUR).peak(0, 0, 1), 24);
        // the MOEBIUS of SORT 0 is -27 where a move of two turns all of nine: -27 / 18
        TroupeSums nine = told("places 6;move 1 2 0 3 4 5;move 0 1 2 4 5 3;move 0 2 1 3 5 4;");
        due("moebius", nine.moebius(0), -27);
        due("above in -27 / 18", nine.peak(11, 0, 0), -3);
        due("below in -27 / 18", nine.peak(11, 0, 1), 2);
        says("Promise 31", "-1000000 if there is none such, for another what.");
        refuses("peak(.., 0, 0)", NO_FRACTION, NO_SORTS, j -> x.peak(j, 0, 0));
        refuses("peak(0, .., 0)", NO_FRACTION, NO_SORTS, i -> x.peak(0, i, 0));
        refuses("peak(0, 0, ..)", NO_FRACTION, noWhat, what -> x.peak(0, 0, what));
        says("Promise 32", "The fraction of SORT i in LOCAL PEAK by p of the BLOCK of SORT j.");
        due("above in local(2, 0, 0)", x.local(2, 0, 0, 0), -1);
        due("below in local(2, 0, 0)", x.local(2, 0, 0, 1), 3);
        due("above in local(5, 3, 2)", x.local(5, 3, 2, 0), -1);
        due("below in local(5, 3, 2)", x.local(5, 3, 2, 1), 2);
        // of 10 MEMBERS: 1 / 10 - 1 / 2 of SORT 0 in that of SORTS 0 and 1
        TroupeSums ten = told("places 5;move 1 2 3 4 0;move 0 4 3 2 1;");
        due("above in -4 / 10", ten.local(2, 0, 0, 0), -2);
        due("below in -4 / 10", ten.local(2, 0, 0, 1), 5);
        due("above in 4 / 10", ten.local(2, 3, 0, 0), 2);
        due("below in 4 / 10", ten.local(2, 3, 0, 1), 5);
        due("where all are of one BLOCK", told(MOST).local(2, 5, 26, 0), 1);
        due("where all are of one BLOCK", told(MOST).local(2, 26, 5, 0), 0);
        says("Promise 32", "-1000000 likewise, or if p is none of 2, 3, 5.");
        refuses("local(2, .., 0, 0)", NO_FRACTION, NO_SORTS, j -> x.local(2, j, 0, 0));
        refuses("local(2, 0, .., 0)", NO_FRACTION, NO_SORTS, i -> x.local(2, 0, i, 0));
        refuses("local(2, 0, 0, ..)", NO_FRACTION, noWhat, what -> x.local(2, 0, 0, what));
        refuses("local(.., 0, 0, 0)", NO_FRACTION, NO_PRIMES, p -> x.local(p, 0, 0, 0));
        says("Promise 33", "How many UNITS there are.");
        due("units of one", new TroupeSums().units(), 2);
        due("units", x.units(), 8);
        due("units of 27 SORTS", told(MOST).units(), 1024);
        due("units of three", told("places 3;move 1 2 0;").units(), 2);
        says("Promise 34", "The number of SORT i in the k-th UNIT.");
        due("unit(0, 3)", x.unit(0, 3), 1);
        due("unit(7, 3)", x.unit(7, 3), -1);
        due("unit(1023, 26) of 27", told(MOST).unit(1023, 26), -1);
        says("Promise 34", "-1000000 if there is none such.");
        refuses("unit(.., 0)", NO_FRACTION, new int[] {-1, 8, 9, 16, 256, 1024, MIN, MIN + 1, MAX}, k -> x.unit(k, 0));
        refuses("unit(0, ..)", NO_FRACTION, NO_SORTS, i -> x.unit(0, i));
    }

    private static void sums() {
        TroupeSums x = told(THREE + "let a=sort 1-7;let b=a*a;");
        says("Promise 35", "The number of a SORT in the SUM with the k-th NAME (0 .., as told);");
        long[][] named = {{0, 1, 0, -7}, {1, -13, 0, 49}};
        for (int k = 0; k < 2; k++) {
            for (int i = 0; i < 4; i++) {
                due("named(" + k + ", " + i + ")", x.named(k, i), named[k][i]);
            }
        }
        due("the largest", told("places 1;let a=10^9*10^3;").named(0, 0), LARGEST);
        says("Promise 35", "Long.MIN_VALUE if there is none such.");
        refuses("named(.., 0)", NO_NUMBER, new int[] {-1, 2, 3, 7, 8, 9, 32, MIN, MAX}, k -> x.named(k, 0));
        refuses("named(0, ..)", NO_NUMBER, NO_SORTS, i -> x.named(0, i));
        makes(x, "b+sort 2");
        says("Promise 36", "The number of a SORT in THE SUM;");
        sum(x, 1, -13, 1, 49);
        says("Promise 36", "Long.MIN_VALUE if there is none such.");
        refuses("has", NO_NUMBER, NO_SORTS, x::has);
        says("Promise 37", "MARK of THE SUM at a SORT;");
        long[] marks = {18, 36, 51, 49};
        for (int i = 0; i < 4; i++) {
            due("marked(" + i + ")", x.marked(i), marks[i]);
        }
        says("Promise 37", "Long.MIN_VALUE if there is none such.");
        refuses("marked", NO_NUMBER, NO_SORTS, x::marked);
        says("Promise 38", "MARK of THE SUM at the SORT of the SUBGROUP that a MEMBER makes;");
        long[] character = {18, 36, 36, 51, 51, 36};
        for (int m = 0; m < 6; m++) {
            due("character(" + m + ")", x.character(m), character[m]);
        }
        says("Promise 38", "Long.MIN_VALUE if there is none such.");
        refuses("character", NO_NUMBER, NO_MEMBERS, x::character);
        says("Promise 40", "The sum that CONGRUENCE makes of THE SUM's MARKS at a SORT, by how many COSETS it is told (a whole number);");
        // (18 + 3 * 36 + 2 * 51) / 6, 36 / 1, (51 + 49) / 2, 49 / 1
        long[] congruence = {38, 36, 50, 49};
        for (int i = 0; i < 4; i++) {
            due("congruence(" + i + ")", x.congruence(i), congruence[i]);
        }
        says("Promise 40", "Long.MIN_VALUE if there is no such SORT.");
        refuses("congruence", NO_NUMBER, NO_SORTS, x::congruence);
        says("Promise 39", "How many SORTS have a number that is not 0 in THE SUM.");
        due("parts of all", x.parts(), 4);
        due("parts of none", told(THREE).parts(), 0);
        makes(x, "-sort 0");
        due("parts of one", x.parts(), 1);
    }

    private static void largest() {
        says("Promise 40", "(a whole number)");
        TroupeSums x = told(FOUR);
        makes(x, "10^9*10^3");
        due("congruence(0) of the largest", x.congruence(0), LARGEST);
        due("marked(0)", x.marked(0), LARGEST);
        due("character(23)", x.character(23), LARGEST);
        makes(x, "-10^9*10^3");
        due("congruence(10) of the least", x.congruence(10), -LARGEST);
        TroupeSums one = new TroupeSums();
        due("congruence of one", one.congruence(0), 0);
        makes(one, "-7");
        due("congruence of one", one.congruence(0), -7);
        due("is(2)", x.is(2), 0);
        due("is(1)", x.is(1), 0);
        due("is(0)", x.is(0), 0);
    }

    private static void is() {
        says("Promise 41", "Whether THE SUM (as it is) 0: has no number below 0, 1: times itself is itself, 2: is a UNIT, 3: has a MARK 0 somewhere; 1 or 0;");
        TroupeSums x = told(THREE);
        String[] sums = {"0", "1", "-1", "2", "sort 1", "1-sort 1", "sort 2-1", "sort 1-2", "2-sort 1", "1-sort 3", "sort 2-2", "sort 0", "sort 1-3", "-sort 0",
            "sort 0-6"};
        int[][] is = {{1, 1, 0, 1}, {1, 1, 1, 0}, {0, 0, 1, 0}, {1, 0, 0, 0}, {1, 0, 0, 1}, {0, 0, 0, 1}, {0, 0, 1, 0}, {0, 0, 0, 0}, {0, 0, 0, 0},
            {1, 1, 0, 1}, {0, 0, 0, 1}, {1, 0, 0, 1}, {0, 0, 0, 1}, {0, 0, 0, 1}, {0, 0, 0, 1}};
        for (int k = 0; k < sums.length; k++) {
            makes(x, sums[k]);
            for (int what = 0; what < 4; what++) {
                due("is(" + what + ") of " + sums[k], x.is(what), is[k][what]);
            }
        }
        says("Promise 41", "NONE for another what.");
        refuses("is", NONE, new int[] {-1, 4, 5, 32, MIN, MAX}, x::is);
    }

    // ---- acts

    /** An ACT that is refused leaves all but the TAPE as it was, which is empty if the ACT reads it. */
    private static void refused(TroupeSums x, String call, long got, long due) {
        due(call, got, due);
        due("about(7) behind " + call, x.about(7), 2);
        due("about(8) behind " + call, x.about(8), 0);
        sum(x, 2, 0, 0, -1);
    }

    /** THREE with a NAME, and 2 * sort 0 - 1 as THE SUM. */
    private static TroupeSums ready() {
        TroupeSums x = told(THREE + "let a=sort 1;");
        makes(x, "2*sort 0");
        x.grows(1, -1, 3);
        return x;
    }

    private static void makesAct() {
        says("Promise 42", "The TAPE (empty then) is an E (as in a let; behind it the end): THE SUM is that: how many SORTS have a number that is not 0;");
        TroupeSums x = ready();
        due("makes", makes(x, "\n a*a - sort 1 + 2 \n"), 2);
        due("about(8)", x.about(8), 0);
        sum(x, 1, 0, 0, 2);
        due("makes of 0", makes(x, "0"), 0);
        sum(x, 0, 0, 0, 0);
        due("makes of all", makes(x, "sort 0+a+sort 2+1"), 4);
        due("makes of 700 bytes", makes(x, "1+" + " ".repeat(697) + "1"), 1);
        sum(x, 0, 0, 0, 2);
        says("Promise 42", "NONE: a FAULT (6 at 0). (An ACT.)");
        x = ready();
        String[] wrong = {"", " ", "1;", "let b=1;", "1 1", "1+", "(1", "1)", "b", "sort 4", "1000", "a1", "-------a", times(31, "a", "+"), "1+999^5",
            " 10^9*10^3+1 ", "10^9*10^3+1;", "sort 0*167*10^9"};
        int[] kinds = {2, 2, 2, 2, 2, 2, 2, 2, 3, 4, 1, 2, 5, 5, 6, 6, 2, 6};
        int[] places = {0, 1, 1, 0, 2, 2, 2, 1, 0, 5, 0, 1, 7, 60, 0, 0, 11, 0};
        for (int k = 0; k < wrong.length; k++) {
            refused(x, "makes of " + wrong[k], makes(x, wrong[k]), NONE);
            due("fault(0) of " + wrong[k], x.fault(0), kinds[k]);
            due("fault(1) of " + wrong[k], x.fault(1), places[k]);
            due("makes behind " + wrong[k], makes(x, "3-a"), 2);
            sum(x, 0, -1, 0, 3);
            x.undo();
        }
        makes(x, "a");
        due("an ACT", x.about(7), 3);
    }

    private static void takeAct() {
        says("Promise 43", "THE SUM is that of 0: PLACES (the SET of all PLACES, as MEMBERS take them), 1: sets of n PLACES, 2: paintings of PLACES with n colours: "
                + "as many of each SORT as that SET has parts (MEMBERS take all of a part to one another) that are like the SET of the SORT "
                + "(n 0 .. 6; with what 0 no matter).");
        TroupeSums x = told(THREE);
        for (int n : new int[] {0, 6, 7, -1, MIN, MAX}) {
            x.grows(0, 5, 0);
            due("take(0, " + n + ")", x.take(0, n), 3);
            sum(x, 0, 1, 0, 0);
        }
        long[][] sets = {{0, 0, 0, 1}, {0, 1, 0, 0}, {0, 1, 0, 0}, {0, 0, 0, 1}, {0, 0, 0, 0}, {0, 0, 0, 0}, {0, 0, 0, 0}};
        long[] many = {1, 3, 3, 1, 0, 0, 0};
        for (int n = 0; n <= 6; n++) {
            due("take(1, " + n + ")", x.take(1, n), many[n]);
            sum(x, sets[n]);
        }
        long[][] paintings = {{0, 0, 0, 0}, {0, 0, 0, 1}, {0, 2, 0, 2}, {1, 6, 0, 3}, {4, 12, 0, 4}, {10, 20, 0, 5}, {20, 30, 0, 6}};
        for (int n = 0; n <= 6; n++) {
            due("take(2, " + n + ")", x.take(2, n), n * n * n);
            sum(x, paintings[n]);
        }
        says("Promise 43", "How many PLACES, sets, paintings there are;");
        TroupeSums one = new TroupeSums();
        due("take(0, 0) of one", one.take(0, 0), 1);
        due("take(1, 1) of one", one.take(1, 1), 1);
        due("take(1, 2) of one", one.take(1, 2), 0);
        due("take(2, 0) of one", one.take(2, 0), 0);
        due("take(2, 6) of one", one.take(2, 6), 6);
        TroupeSums six = told("places 6;");
        due("take(0, 0) of 6", six.take(0, 0), 6);
        due("take(1, 0) of 6", six.take(1, 0), 1);
        due("take(1, 3) of 6", six.take(1, 3), 20);
        due("take(1, 6) of 6", six.take(1, 6), 1);
        due("take(2, 1) of 6", six.take(2, 1), 1);
        due("take(2, 6) of 6", six.take(2, 6), 46656);
        sum(six, 46656);
        says("Promise 43", "NONE for another what, another n. (An ACT.)");
        TroupeSums y = ready();
        for (int what : new int[] {-1, 3, 4, 32, MIN, MAX}) {
            for (int n : new int[] {0, 1, 6}) {
                refused(y, "take(" + what + ", " + n + ")", y.take(what, n), NONE);
            }
        }
        for (int n : new int[] {-1, 7, 8, 32, MIN, MAX}) {
            refused(y, "take(1, " + n + ")", y.take(1, n), NONE);
            refused(y, "take(2, " + n + ")", y.take(2, n), NONE);
        }
        due("take(1, 6), of which there are none", y.take(1, 6), 0);
        due("an ACT", y.about(7), 3);
    }

    private static void marksAct() {
        says("Promise 44", "The TAPE (empty then) has whole numbers, as many as there are SORTS: 1 to 6 digits each, perhaps a - directly ahead of them, "
                + "blanks (32, 10) between two (one at least), any many ahead of the first, behind the last: if they are the MARKS of a SUM THE SUM is that: 0.");
        TroupeSums x = told(THREE);
        String[] like = {"8 2 2 2", "\n8\n2\n2\n2\n", "  8  2 \n 2   2  ", "000008 02 000002 2", "-0 0 -00 000000",
            "999999 999999 999999 999999", "-999999 -999999 -999999 -999999", "-6 0 0 0",
            " ".repeat(200) + "8" + "\n".repeat(200) + "2" + " ".repeat(200) + "2 2" + " ".repeat(95)};
        long[][] sums = {{1, 0, 0, 2}, {1, 0, 0, 2}, {1, 0, 0, 2}, {1, 0, 0, 2}, {0, 0, 0, 0}, {0, 0, 0, 999999}, {0, 0, 0, -999999}, {-1, 0, 0, 0}, {1, 0, 0, 2}};
        for (int k = 0; k < like.length; k++) {
            due("marks of " + like[k], marks(x, like[k]), 0);
            due("about(8)", x.about(8), 0);
            sum(x, sums[k]);
        }
        due("marks of 27", marks(told(MOST), times(27, "-7", " ")), 0);
        due("marks of 26", marks(told(MOST), times(26, "-7", " ")), -2);
        due("marks of 28", marks(told(MOST), times(28, "-7", " ")), -2);
        due("marks of 1", marks(new TroupeSums(), "5"), 0);
        due("marks of 2", marks(new TroupeSums(), "5 5"), -2);
        says("Promise 44", "Else the SORT of the least number at which CONGRUENCE is not so, and 1 (THE SUM stays).");
        TroupeSums y = ready();
        refused(y, "at 0", marks(y, "7 2 2 2"), 1);
        refused(y, "at 0, below 0", marks(y, "-1 0 0 0"), 1);
        refused(y, "at 0 and 2", marks(y, "1 0 1 0"), 1);
        refused(y, "at 2 alone", marks(y, "0 0 3 0"), 3);
        refused(y, "at 2 alone, below 0", marks(y, "0 0 -3 0"), 3);
        TroupeSums two = told(TWO);
        due("at 0 of two", marks(two, "1 0"), 1);
        due("at none of two", marks(two, "-1 1"), 0);
        says("Promise 44", "-2: the TAPE is not like that. (An ACT, if 0.)");
        String[] unlike = {"", " ", "\n", "8 2 2", "8 2 2 2 2", "8", "8 2 2 2 -", "8 2 2 2x", "x8 2 2 2", "8 2 2 --2", "8 2 2 - 2", "8 2 2 2-", "8 2-2 2", "8 2 2-2",
            "8 2 2 +2", "8 2 2 0000002", "8 2 2 1000000", "8 2 2 4294967298", "8\t2\t2\t2", "8,2,2,2", "8 2 2 2;", "8 2 2 2 #", "- 8 2 2", "8 2 2 2.0", "-", "8 2 2 -0000002"};
        for (String text : unlike) {
            refused(y, "marks of " + text, marks(y, text), -2);
        }
        due("marks", marks(y, "8 2 2 2"), 0);
        due("an ACT", y.about(7), 3);
    }

    private static void usesAct() {
        says("Promise 45", "THE SUM is the one with the k-th NAME: how many SORTS have a number that is not 0;");
        TroupeSums x = told(THREE + "let a=sort 1;let b=a-a;let c=a-3;let d=1;let e=1;let f=1;let g=1;let h=a*a*a;");
        due("uses(0)", x.uses(0), 1);
        sum(x, 0, 1, 0, 0);
        due("uses(1)", x.uses(1), 0);
        sum(x, 0, 0, 0, 0);
        due("uses(2)", x.uses(2), 2);
        sum(x, 0, 1, 0, -3);
        due("uses(7)", x.uses(7), 2);
        sum(x, 4, 1, 0, 0);
        refuses("uses of 8 NAMES", NONE, new int[] {-1, 8, 9, 20, 21, MIN, MAX}, x::uses);
        says("Promise 45", "NONE if there is none such. (An ACT.)");
        TroupeSums y = ready();
        for (int k : new int[] {-1, 1, 2, 7, 8, 32, MIN, MAX}) {
            refused(y, "uses(" + k + ")", y.uses(k), NONE);
        }
        due("uses(0)", y.uses(0), 1);
        due("an ACT", y.about(7), 3);
    }

    private static void growsAct() {
        says("Promise 46", "THE SUM becomes n (-9 .. 9) times itself, and m (-999 .. 999) of a SORT more: the number of that then;");
        TroupeSums x = told(THREE);
        due("grows(0, 0, 0)", x.grows(0, 0, 0), 0);
        due("grows(9, 999, 0)", x.grows(9, 999, 0), 999);
        due("grows(9, 999, 3)", x.grows(9, 999, 3), 999);
        sum(x, 8991, 0, 0, 999);
        due("grows(-9, -999, 3)", x.grows(-9, -999, 3), -9990);
        sum(x, -80919, 0, 0, -9990);
        due("grows(0, -999, 2)", x.grows(0, -999, 2), -999);
        sum(x, 0, 0, -999, 0);
        due("grows(-1, 0, 0)", x.grows(-1, 0, 0), 0);
        sum(x, 0, 0, 999, 0);
        says("Promise 46", "Long.MIN_VALUE, doing nothing, if one can't be, or one of its numbers or MARKS were beyond what 6 in 1. tells. (An ACT.)");
        TroupeSums y = ready();
        for (int n : new int[] {-10, 10, 11, 32, MIN, MAX}) {
            refused(y, "grows(" + n + ", 0, 0)", y.grows(n, 0, 0), NO_NUMBER);
        }
        for (int m : new int[] {-1000, 1000, 1001, MIN, MAX}) {
            refused(y, "grows(1, " + m + ", 0)", y.grows(1, m, 0), NO_NUMBER);
        }
        for (int sort : NO_SORTS) {
            refused(y, "grows(1, 0, " + sort + ")", y.grows(1, 0, sort), NO_NUMBER);
        }
        due("grows(1, 0, 0)", y.grows(1, 0, 0), 2);
        due("an ACT, though nothing is other", y.about(7), 3);
    }

    private static void growsFar() {
        says("Promise 46", "one of its numbers or MARKS were beyond what 6 in 1. tells.");
        TroupeSums x = told("places 1;");
        makes(x, "10^9*10^3-1");
        due("to the largest", x.grows(1, 1, 0), LARGEST);
        due("beyond it", x.grows(1, 1, 0), NO_NUMBER);
        due("the other sign", x.grows(-1, 0, 0), -LARGEST);
        due("below the least", x.grows(1, -1, 0), NO_NUMBER);
        due("above, by -1", x.grows(-1, 1, 0), NO_NUMBER);
        due("nine times", x.grows(9, 0, 0), NO_NUMBER);
        due("nine times, the other sign", x.grows(-9, 0, 0), NO_NUMBER);
        due("about(7)", x.about(7), 3);
        due("has(0)", x.has(0), -LARGEST);
        due("none of it", x.grows(0, 999, 0), 999);
        TroupeSums three = told(THREE);
        makes(three, "sort 0*(166*10^9+666*10^6+666*10^3+666)");
        due("a MARK to the largest", three.grows(1, 4, 3), 4);
        due("marked(0)", three.marked(0), LARGEST);
        due("a MARK beyond", three.grows(1, 1, 3), NO_NUMBER);
        due("a MARK beyond, of another", three.grows(1, 1, 2), NO_NUMBER);
        due("the MARK the other sign", three.grows(-1, 0, 0), -166666666666L);
        due("marked(0)", three.marked(0), -LARGEST);
        due("a MARK below", three.grows(1, -1, 3), NO_NUMBER);
        sum(three, -166666666666L, 0, 0, -4);
        due("about(7)", three.about(7), 3);
        // the MARKS of 3 * sort 0 - 2 * sort 1 - 2 * sort 2 - 2 * sort 3 + 2 are 2 and -2
        TroupeSums two = told("places 4;move 1 0 2 3;move 0 1 3 2;");
        makes(two, "(3*sort 0-2*sort 1-2*sort 2-2*sort 3+2)*111*10^9");
        due("a number within", two.grows(3, 0, 0), 999000000000L);
        due("a number beyond, its MARKS within", two.grows(-2, 0, 0), NO_NUMBER);
        due("has(0)", two.has(0), 999000000000L);
    }

    private static void undoAct() {
        says("Promise 47", "UNDO: how many more can be;");
        TroupeSums x = ready();
        due("undo", x.undo(), 1);
        sum(x, 2, 0, 0, 0);
        due("undo", x.undo(), 0);
        sum(x, 0, 0, 0, 0);
        says("Promise 47", "NONE if none can.");
        due("undo", x.undo(), NONE);
        due("about(7)", x.about(7), 0);
        sum(x, 0, 0, 0, 0);
        due("undo of a new object", new TroupeSums().undo(), NONE);
        for (int n = 1; n <= 30; n++) {
            x.grows(1, 1, 3);
        }
        for (int n = 11; n >= 0; n--) {
            due("undo", x.undo(), n);
        }
        due("undo behind 12", x.undo(), NONE);
        sum(x, 0, 0, 0, 18);
        x.grows(1, 1, 3);
        Texts.put(x, THREE);
        x.troupe();
        due("undo behind troupe()", x.undo(), NONE);
    }

    /** What a promise or a term says and no test has quoted. */
    private static void allQuoted() {
        title = "the document";
        due("promises", document.promises().size(), 47);
        for (String promise : document.promises()) {
            CHECK.holds(promise + " unquoted: " + document.unquoted(promise), document.unquoted(promise).isEmpty());
        }
        for (String part : new String[] {"1", "2", "3", "What it is"}) {
            CHECK.holds(part + " unquoted: " + document.unquoted(part), document.unquoted(part).isEmpty());
        }
    }

    public static void main(String[] args) throws IOException {
        document = new Document(Path.of(System.getProperty("project", ".")).resolve("../shared/DOC.md"));
        calls();
        texts();
        movesAndLets();
        powers();
        units();
        tokens();
        faults();
        faultsOfMany();
        faultsOfSize();
        terms();
        keeping();
        newObject();
        feed();
        end();
        troupe();
        fault();
        about();
        members();
        subgroups();
        sets();
        placesAndCosets();
        more();
        peaks();
        sums();
        largest();
        is();
        makesAct();
        takeAct();
        marksAct();
        usesAct();
        growsAct();
        growsFar();
        undoAct();
        Definitions.look(document, CHECK);
        allQuoted();
        CHECK.finish();
    }
}
