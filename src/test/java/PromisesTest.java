/** Each promise by answers worked out by hand: ordinary ones, the edges that the document names, wrong inputs. */
public final class PromisesTest {
    private static final Check CHECK = new Check("PromisesTest");
    private static final long NO_NUMBER = Long.MIN_VALUE;
    private static final int NO_FRACTION = -1000000;

    private static final String THREE = "places 3; move 1 2 0; move 1 0 2;";
    private static final String FOUR = "places 4; move 1 2 3 0; move 1 0 2 3;";
    private static final String SQUARE = "places 4; move 1 0 2 3; move 0 1 3 2;";
    private static final String TWO = "places 2; move 1 0;";

    private static String title = "";

    private static void due(String call, long got, long due) {
        CHECK.same(title + ": " + call, got, due);
    }

    private static void put(TroupeSums x, String text) {
        Texts.put(x, text);
    }

    private static TroupeSums told(String text) {
        TroupeSums x = new TroupeSums();
        put(x, text);
        if (x.troupe() < 0) {
            due("troupe of " + text + " (fault " + x.fault(0) + " at " + x.fault(1) + ")", 0, 1);
        }
        return x;
    }

    private static long makes(TroupeSums x, String text) {
        put(x, text);
        return x.makes();
    }

    private static long marks(TroupeSums x, String text) {
        put(x, text);
        return x.marks();
    }

    private static void sum(String what, TroupeSums x, long... numbers) {
        for (int i = 0; i < numbers.length; i++) {
            due(what + ", has(" + i + ")", x.has(i), numbers[i]);
        }
        due(what + ", about(5)", x.about(5), numbers.length);
    }

    private static void fault(String text, int kind, int place) {
        TroupeSums x = new TroupeSums();
        put(x, text);
        due("troupe of \"" + text + "\"", x.troupe(), -1);
        due("fault(0) of \"" + text + "\"", x.fault(0), kind);
        due("fault(1) of \"" + text + "\"", x.fault(1), place);
        due("about(8) behind \"" + text + "\"", x.about(8), 0);
        due("about(0) behind \"" + text + "\"", x.about(0), 1);
    }

    private static void right(String text, int members) {
        TroupeSums x = new TroupeSums();
        put(x, text);
        due("troupe of \"" + text + "\"", x.troupe(), members);
        due("fault(0) of \"" + text + "\"", x.fault(0), 0);
        due("fault(1) of \"" + text + "\"", x.fault(1), -1);
    }

    private static void newObject() {
        title = "1 a new object";
        TroupeSums x = new TroupeSums();
        long[] about = {1, 0, 0, 1, 1, 1, 1, 0, 0};
        for (int what = 0; what < about.length; what++) {
            due("about(" + what + ")", x.about(what), about[what]);
        }
        due("moves", x.moves(0, 0), 0);
        due("mark", x.mark(0, 0), 1);
        due("has", x.has(0), 0);
        due("fault", x.fault(0), 0);
        due("its place", x.fault(1), -1);
        due("undo", x.undo(), -1);
        due("named", x.named(0, 0), NO_NUMBER);
        due("NONE", TroupeSums.NONE, -1);
    }

    private static void tape() {
        title = "2 feed, 3 end";
        TroupeSums x = new TroupeSums();
        due("end(0)", x.end(0), 0);
        due("end(1)", x.end(1), -1);
        due("end(-1)", x.end(-1), -1);
        for (int n = 1; n <= 35; n++) {
            due("feed " + n, x.feed(0x20202020, 0x0a0a0a0a, 0x20200a0a, 0x20202020, 0x20202020), 20 * n);
        }
        due("feed beyond 700", x.feed(0, 0, 0, 0, 0), -1);
        due("about(8)", x.about(8), 700);
        due("end(701)", x.end(701), -1);
        due("end(min)", x.end(Integer.MIN_VALUE), -1);
        due("end(700)", x.end(700), 700);
        due("end(681)", x.end(681), 681);
        due("feed for 701", x.feed(0, 0, 0, 0, 0), -1);
        due("end(680)", x.end(680), 680);
        // "places 2;move 1 0;  ", each number's highest byte first
        due("feed", x.feed(0x706c6163, 0x65732032, 0x3b6d6f76, 0x65203120, 0x303b2020), 700);
        due("troupe", x.troupe(), 2);
        // what stood behind the end is not there any more: "12", "x", "1234"
        x.feed(0x31327820, 0, 0, 0, 0);
        x.end(2);
        due("makes of 12", x.makes(), 1);
        due("has", x.has(1), 12);
        x.feed(0x31323334, 0, 0, 0, 0);
        x.end(3);
        due("makes of 123", x.makes(), 1);
        due("has", x.has(1), 123);
        x.feed(0x20202020, 0, 0, 0, 0);
        x.end(1);
        due("makes of a blank", x.makes(), -1);
        due("its place", x.fault(1), 1);
        due("feed of bytes above 127", x.feed(-1, 0xe9e9e9e9, 0, 0, 0), 20);
        due("troupe", x.troupe(), -1);
        due("fault(0)", x.fault(0), 1);
        due("fault(1)", x.fault(1), 0);
    }

    private static void troupe() {
        title = "4 troupe";
        right("places 1;", 1);
        right(" \n places\n3 ; ", 1);
        right("places3;move1 2 0;", 3);
        right("places 003;move 001 002 000;", 3);
        right(THREE, 6);
        right(FOUR, 24);
        right("places 3; move 0 1 2; move 0 1 2; move 0 1 2; move 0 1 2;", 1);
        right("places 6; move 1 2 3 0 4 5; move 2 1 0 3 4 5; move 0 1 2 3 5 4;", 16);
        right("places 2;let a=1;let b=a;let c=b;let d=c;let e=d;let f=e;let g=f;let h=g;", 1);
        TroupeSums x = told(THREE + "let a = sort 1;");
        due("makes", makes(x, "a + 2"), 2);
        put(x, "places 2; move 1 1;");
        due("a fault", x.troupe(), -1);
        due("all else stays: PLACES", x.about(0), 3);
        due("MEMBERS", x.about(3), 6);
        due("NAMES", x.about(2), 1);
        due("ACTS", x.about(7), 1);
        due("the TAPE is empty", x.about(8), 0);
        sum("THE SUM stays", x, 0, 1, 0, 2);
        put(x, TWO);
        due("another", x.troupe(), 2);
        due("no ACTS are kept", x.about(7), 0);
        due("undo", x.undo(), -1);
        due("NAMES", x.about(2), 0);
        sum("THE SUM", x, 0, 0);
    }

    private static void faultsOfTokens() {
        title = "5 fault: tokens";
        fault("", 2, 0);
        fault(" \n", 2, 2);
        fault("Places 3;", 1, 0);
        fault("placess 3;", 1, 0);
        fault("places 0003;", 1, 7);
        fault("places 3a;", 1, 7);
        fault("places 3;#", 1, 9);
        fault("places 3;\t", 1, 9);
        fault("places 3; move 1 2 0; let a = 1x;", 1, 30);
        fault("places 3; let abcdefg = 1;", 1, 14);
        fault("places 3; let a = 1234;", 1, 18);
        fault("places 3; let a = 1 $", 1, 20);
        fault("places 3; let a = b $", 3, 18);
        fault("places " + (char) 233, 1, 7);
    }

    private static void faultsOfPlace() {
        title = "5 fault: what can't stand there";
        fault("place 3;", 2, 0);
        fault("places", 2, 6);
        fault("places ;", 2, 7);
        fault("places 3", 2, 8);
        fault("places 3 ", 2, 9);
        fault("places 3 3;", 2, 9);
        fault("places 3;;", 2, 9);
        fault("places 3; move 1 0;", 2, 18);
        fault("places 3; move;", 2, 14);
        fault("places 3; move 1 0 2 2;", 2, 21);
        fault("places 3; move 1 0 2", 2, 20);
        fault("places 3; let a = 1; move 1 0 2;", 2, 21);
        fault("places 3; let a = 1; places 3;", 2, 21);
        fault("places 3; let let = 1;", 2, 14);
        fault("places 3; let sort = 1;", 2, 14);
        fault("places 3; let 1 = 1;", 2, 14);
        fault("places 3; let a 1;", 2, 16);
        fault("places 3; let a = ;", 2, 18);
        fault("places 3; let a = 1", 2, 19);
        fault("places 3; let a = move;", 2, 18);
        fault("places 3; let a = sort;", 2, 22);
        fault("places 3; let a = sort (0);", 2, 23);
        fault("places 3; let a = (1;", 2, 20);
        fault("places 3; let a = 1);", 2, 19);
        fault("places 3; let a = ();", 2, 19);
        fault("places 3; let a = 1 2;", 2, 20);
        fault("places 3; let a = 1 b;", 2, 20);
        fault("places 3; let a = + 1;", 2, 18);
        fault("places 3; let a = 1 +;", 2, 21);
        fault("places 3; let a = 1 * * 1;", 2, 22);
        fault("places 3; let a = 2 ^ 3 ^ 2;", 2, 24);
        fault("places 3; let a = 2 ^ (3);", 2, 22);
        fault("places 3; let a = 2 ^ -1;", 2, 22);
        fault("places 3; let a = 2 ^ 10;", 2, 22);
        fault("places 3; let a = 2 ^;", 2, 21);
        fault("places 3; let a = 1 = 1;", 2, 20);
    }

    private static void faultsOfNamesAndNumbers() {
        title = "5 fault: names and numbers";
        fault("places 3; let a = 1; let a = 2;", 3, 25);
        fault("places 3; let a = 1; let a", 3, 25);
        fault("places 3; let a = b;", 3, 18);
        fault("places 3; let a = a;", 3, 18);
        fault("places 3; let a = 1 + b ^ 2;", 3, 22);
        fault("places 0;", 4, 7);
        fault("places 7;", 4, 7);
        fault("places 999", 4, 7);
        fault("places 3; move 1 0 3;", 4, 19);
        fault("places 3; move 1 0 999;", 4, 19);
        fault("places 3; move 1 0 1;", 4, 19);
        fault("places 3; move 3 0 1 2;", 4, 15);
        fault("places 1; move 0; let a = sort 1;", 4, 31);
        fault(THREE + " let a = sort 4;", 4, THREE.length() + 14);
        right(THREE + " let a = sort 3;", 6);
        right(THREE + " let a = sort 003;", 6);
    }

    private static void faultsOfMany() {
        title = "5 fault: one too many";
        String four = "places 3; move 0 1 2; move 0 1 2; move 0 1 2; move 0 1 2; ";
        fault(four + "move 0 1 2;", 5, four.length());
        fault(four + "move #", 5, four.length());
        String five = "places 5; move 1 2 3 4 0; ";
        fault(five + "move 1 0 2 3 4;", 5, 26);
        fault(five + "move 1 0 2 3 4; #", 5, 26);
        fault(five + "move 1 0 2 3 4", 2, 40);
        fault(five + "move 1 0 2 3 4 #", 1, 41);
        fault("places 6; move 1 2 3 0 4 5; move 1 0 2 3 4 5; move 0 1 2 3 5 4;", 5, 46);
        StringBuilder names = new StringBuilder("places 3;");
        for (char c = 'a'; c <= 'h'; c++) {
            names.append("let ").append(c).append("=1;");
        }
        right(names.toString(), 1);
        fault(names + "let i=1;", 5, names.length());
        fault(names + "let a=1;", 5, names.length());
        fault(names + "let #", 5, names.length());
        String thirty = "places 3; let a = 1" + "+1".repeat(29);
        right(thirty + ";", 1);
        fault(thirty + "+1;", 5, thirty.length() + 1);
        fault(thirty + "+sort 9;", 5, thirty.length() + 1);
        fault(thirty + "+(1);", 5, thirty.length() + 1);
        fault(thirty + "+-1;", 5, thirty.length() + 1);
        fault(thirty + "+b;", 3, thirty.length() + 1);
        fault(thirty + "+move;", 2, thirty.length() + 1);
        right(thirty + "^2; let b = a" + "+a".repeat(29) + ";", 1);
        right("places 3; let a = " + "-(1)+".repeat(9) + "-1+1;", 1);
        fault("places 3; let a = " + "-(1)+".repeat(9) + "-1+1+1;", 5, 18 + 45 + 5);
        right("places 3; let a = ((((((1))))));", 1);
        right("places 3; let a = ------1;", 1);
        fault("places 3; let a = (((((((1)))))));", 5, 25);
        fault("places 3; let a = -------1;", 5, 25);
        fault("places 3; let a = (-(-(-(-1))));", 5, 25);
        fault("places 3; let a = (-(-(-(((#", 5, 26 - 1);
        fault("places 3; let a = ((((((((;", 5, 25);
        fault("places 3; let a = (1)+(((((((1)))))));", 5, 29);
        fault("places 3; let a = -1+(((((((1)))))));", 5, 28);
        fault("places 3; let a = -(-1)^2*-------1;", 5, 33);
        right("places 3; let a = ((((((1)))))) + ------1;", 1);
    }

    private static void faultsOfSize() {
        title = "5 fault: a sum too large";
        right("places 1; let a = 10^9*10^3;", 1);
        right("places 1; let a = -10^9*10^3;", 1);
        fault("places 1; let a = 10^9*10^3+1;", 6, 10);
        fault("places 1; let a = -10^9*10^3-1;", 6, 10);
        fault("places 1; let b = 1; let a = 10^9*10^3+1-1;", 6, 21);
        fault("places 1; let a = 10^9*10^9*0;", 6, 10);
        right("places 1; let a = 0*10^9*10^3;", 1);
        fault("places 1; let a = 999^5;", 6, 10);
        right("places 1; let a = 999^4;", 1);
        fault("places 1; let a = (10^9*10^3+1)^0;", 6, 10);
        fault("places 1; let a = 999^5; let", 6, 10);
        fault("places 1; let a = 999^5 #", 1, 24);
        fault("places 1; let a = 999^5", 2, 23);
        // the number is within, its MARK is 6 times as much
        right(THREE + "let a = sort 0 * 166 * 10^9;", 6);
        fault(THREE + "let a = sort 0 * 167 * 10^9;", 6, THREE.length());
        // the MARKS are 2 and -2 times a number, one of its numbers is 3 times as much
        String three = "(3*sort 0 - 2*sort 1 - 2*sort 2 - 2*sort 3 + 2)";
        right(SQUARE + "let a = " + three + "*333*10^9;", 4);
        fault(SQUARE + "let a = " + three + "*334*10^9;", 6, SQUARE.length());
    }

    private static void faultOfLatest() {
        title = "5 fault: of the latest";
        TroupeSums x = told(TWO);
        due("fault(2)", x.fault(2), -1);
        due("fault(-1)", x.fault(-1), -1);
        due("makes", makes(x, "1 +"), -1);
        due("fault(0)", x.fault(0), 2);
        due("fault(1)", x.fault(1), 3);
        due("marks, which tells none", marks(x, "x"), -2);
        due("uses, which tells none", x.uses(0), -1);
        due("fault(0)", x.fault(0), 2);
        due("makes", makes(x, "1"), 1);
        due("fault(0)", x.fault(0), 0);
        due("fault(1)", x.fault(1), -1);
    }

    private static void about() {
        title = "6 about";
        TroupeSums x = told(FOUR + "let a = 1; let b = 2;");
        long[] due = {4, 2, 2, 24, 30, 11, 0, 0, 0, -1};
        for (int what = 0; what < due.length; what++) {
            due("about(" + what + ")", x.about(what), due[what]);
        }
        due("about(-1)", x.about(-1), -1);
        x.uses(0);
        x.feed(0, 0, 0, 0, 0);
        due("about(7)", x.about(7), 1);
        due("about(8)", x.about(8), 20);
        due("about(6)", told(SQUARE).about(6), 1);
        TroupeSums most = told("places 6; move 1 2 3 0 4 5; move 2 1 0 3 4 5; move 0 1 2 3 5 4;");
        due("about(4)", most.about(4), 35);
        due("about(5)", most.about(5), 27);
    }

    private static void members() {
        title = "7 moves, 8 times, 9 order, 29 orders, 30 likes, 26 alike";
        TroupeSums x = told(THREE);
        int[][] rows = {{0, 1, 2}, {0, 2, 1}, {1, 0, 2}, {1, 2, 0}, {2, 0, 1}, {2, 1, 0}};
        int[] orders = {1, 2, 2, 3, 3, 2};
        int[] likes = {1, 3, 3, 2, 2, 3};
        for (int m = 0; m < 6; m++) {
            for (int p = 0; p < 3; p++) {
                due("moves(" + m + ", " + p + ")", x.moves(m, p), rows[m][p]);
            }
            due("order(" + m + ")", x.order(m), orders[m]);
            due("likes(" + m + ")", x.likes(m), likes[m]);
        }
        due("moves(6, 0)", x.moves(6, 0), -1);
        due("moves(-1, 0)", x.moves(-1, 0), -1);
        due("moves(0, 3)", x.moves(0, 3), -1);
        due("moves(0, -1)", x.moves(0, -1), -1);
        due("times(1, 2): first 1, then 2", x.times(1, 2), 3);
        due("times(2, 1)", x.times(2, 1), 4);
        due("times(3, 4)", x.times(3, 4), 0);
        due("times(-1, 0)", x.times(-1, 0), -1);
        due("times(0, 6)", x.times(0, 6), -1);
        due("order(6)", x.order(6), -1);
        due("order(-1)", x.order(-1), -1);
        due("likes(6)", x.likes(6), -1);
        due("likes(-1)", x.likes(-1), -1);
        due("orders(1)", x.orders(1), 1);
        due("orders(2)", x.orders(2), 3);
        due("orders(3)", x.orders(3), 2);
        due("orders(6)", x.orders(6), 0);
        due("orders(24)", x.orders(24), 0);
        due("orders(25)", x.orders(25), -1);
        due("orders(0)", x.orders(0), -1);
        due("alike", x.alike(), 18);
        due("alike of 4 places", told(FOUR).alike(), 24 * 5);
        due("alike where all are", told(SQUARE).alike(), 16);
        due("order 6", told("places 5; move 1 2 0 4 3;").orders(6), 2);
    }

    private static void subgroups() {
        title = "10 makesOf, 11 sortOf, 12 sort, 13 within";
        TroupeSums x = told(THREE);
        due("makesOf(0)", x.makesOf(0), 1);
        due("makesOf(1)", x.makesOf(1), 1);
        due("makesOf(8)", x.makesOf(8), 25);
        due("makesOf(16)", x.makesOf(16), 25);
        due("makesOf(6)", x.makesOf(6), 63);
        due("makesOf(63)", x.makesOf(63), 63);
        due("makesOf(64)", x.makesOf(64), -1);
        due("makesOf(min)", x.makesOf(Integer.MIN_VALUE), -1);
        due("sortOf(0)", x.sortOf(0), 0);
        due("sortOf(4)", x.sortOf(4), 1);
        due("sortOf(32)", x.sortOf(32), 1);
        due("sortOf(16)", x.sortOf(16), 2);
        due("sortOf(9)", x.sortOf(9), 2);
        due("sortOf(10)", x.sortOf(10), 3);
        due("sortOf(64)", x.sortOf(64), -1);
        due("sortOf(-1)", x.sortOf(-1), -1);
        int[][] sorts = {{1, 1, 1, 6, 1, 1}, {2, 3, 3, 2, 1, 1}, {3, 1, 25, 6, 1, 1}, {6, 1, 63, 6, 0, 0}};
        int[][] within = {{1, 1, 1, 1}, {0, 1, 0, 3}, {0, 0, 1, 1}, {0, 0, 0, 1}};
        for (int i = 0; i < 4; i++) {
            for (int what = 0; what < 6; what++) {
                due("sort(" + i + ", " + what + ")", x.sort(i, what), sorts[i][what]);
            }
            for (int j = 0; j < 4; j++) {
                due("within(" + i + ", " + j + ")", x.within(i, j), within[i][j]);
            }
        }
        due("sort(4, 0)", x.sort(4, 0), -1);
        due("sort(-1, 0)", x.sort(-1, 0), -1);
        due("sort(0, 6)", x.sort(0, 6), -1);
        due("sort(0, -1)", x.sort(0, -1), -1);
        due("within(0, 4)", x.within(0, 4), -1);
        due("within(-1, 0)", x.within(-1, 0), -1);
        TroupeSums y = told(FOUR);
        int[] sizes = {1, 2, 2, 3, 4, 4, 4, 6, 8, 12, 24};
        int[] many = {1, 3, 6, 4, 1, 3, 3, 4, 3, 1, 1};
        for (int i = 0; i < sizes.length; i++) {
            due("of 4 places: sort(" + i + ", 0)", y.sort(i, 0), sizes[i]);
            // of like sizes the FIRST with the fewer bits is ahead
            if (i != 1 && i != 2 && (i < 4 || i > 6)) {
                due("of 4 places: sort(" + i + ", 1)", y.sort(i, 1), many[i]);
            }
            if (i > 0 && sizes[i] == sizes[i - 1]) {
                CHECK.holds("sort " + i + " behind the one ahead of it", y.sort(i, 2) > y.sort(i - 1, 2));
            }
        }
        due("sorts 1 and 2", y.sort(1, 1) + y.sort(2, 1), 9);
        due("makesOf of all 24", y.makesOf((1 << 24) - 1), (1 << 24) - 1);
        due("makesOf(1 << 24)", y.makesOf(1 << 24), -1);
    }

    private static void marksOfSorts() {
        title = "14 mark, 15 product, 25 pairs";
        TroupeSums x = told(THREE);
        int[][] marks = {{6, 0, 0, 0}, {3, 1, 0, 0}, {2, 0, 2, 0}, {1, 1, 1, 1}};
        int[][][] products = {
            {{6, 0, 0, 0}, {3, 0, 0, 0}, {2, 0, 0, 0}, {1, 0, 0, 0}},
            {{3, 0, 0, 0}, {1, 1, 0, 0}, {1, 0, 0, 0}, {0, 1, 0, 0}},
            {{2, 0, 0, 0}, {1, 0, 0, 0}, {0, 0, 2, 0}, {0, 0, 1, 0}},
            {{1, 0, 0, 0}, {0, 1, 0, 0}, {0, 0, 1, 0}, {0, 0, 0, 1}},
        };
        for (int i = 0; i < 4; i++) {
            for (int j = 0; j < 4; j++) {
                due("mark(" + i + ", " + j + ")", x.mark(i, j), marks[i][j]);
                int all = 0;
                for (int k = 0; k < 4; k++) {
                    due("product(" + i + ", " + j + ", " + k + ")", x.product(i, j, k), products[i][j][k]);
                    all += products[i][j][k];
                }
                due("pairs(" + i + ", " + j + ")", x.pairs(i, j), all);
            }
        }
        due("mark(0, 4)", x.mark(0, 4), -1);
        due("mark(-1, 0)", x.mark(-1, 0), -1);
        due("product(4, 0, 0)", x.product(4, 0, 0), -1);
        due("product(0, -1, 0)", x.product(0, -1, 0), -1);
        due("product(0, 0, 4)", x.product(0, 0, 4), -1);
        due("pairs(0, 4)", x.pairs(0, 4), -1);
        due("pairs(-1, 0)", x.pairs(-1, 0), -1);
    }

    private static void residues() {
        title = "16 residue, 17 block";
        TroupeSums x = told(THREE);
        int[][] residues = {{0, 0, 0}, {0, 1, 1}, {2, 0, 2}, {2, 3, 3}};
        int[][] blocks = {{3, 5, 1}, {3, 2, 2}, {12, 5, 4}, {12, 8, 8}};
        int[] primes = {2, 3, 5};
        for (int i = 0; i < 4; i++) {
            for (int p = 0; p < 3; p++) {
                due("residue(" + i + ", " + primes[p] + ")", x.residue(i, primes[p]), residues[i][p]);
                due("block(" + i + ", " + primes[p] + ")", x.block(i, primes[p]), blocks[i][p]);
            }
        }
        for (int p : new int[] {-2, 0, 1, 4, 7}) {
            due("residue(0, " + p + ")", x.residue(0, p), -1);
            due("block(0, " + p + ")", x.block(0, p), -1);
        }
        due("residue(4, 2)", x.residue(4, 2), -1);
        due("residue(-1, 2)", x.residue(-1, 2), -1);
        due("block(4, 2)", x.block(4, 2), -1);
        TroupeSums y = told(FOUR);
        due("residue of all of 4 places by 2: even moves", y.sort(y.residue(10, 2), 0), 12);
        due("residue of even moves by 3: 4 MEMBERS", y.sort(y.residue(9, 3), 0), 4);
        due("residue of even moves by 2: themselves", y.residue(9, 2), 9);
    }

    private static void places() {
        title = "18 keeper, 19 orbit";
        TroupeSums x = told("places 5; move 1 2 0 3 4; move 1 0 2 3 4;");
        due("keeper(0)", x.keeper(0), 3);
        due("keeper(1)", x.keeper(1), 33);
        due("keeper(2)", x.keeper(2), 5);
        due("keeper(3)", x.keeper(3), 63);
        due("orbit(1)", x.orbit(1), 7);
        due("orbit(4)", x.orbit(4), 16);
        due("keeper(5)", x.keeper(5), -1);
        due("keeper(-1)", x.keeper(-1), -1);
        due("orbit(5)", x.orbit(5), -1);
        due("orbit(-1)", x.orbit(-1), -1);
    }

    private static void cosets() {
        title = "20 coset, 21 takes";
        TroupeSums x = told(THREE);
        // FIRST of 1: 0 and 1; 1 TIMES 2 is 3, 1 TIMES 4 is 5
        int[] least = {0, 0, 2, 2, 4, 4};
        for (int m = 0; m < 6; m++) {
            due("coset(1, " + m + ")", x.coset(1, m), least[m]);
            due("coset(0, " + m + ")", x.coset(0, m), m);
            due("coset(3, " + m + ")", x.coset(3, m), 0);
            due("takes(0, " + m + ", 3)", x.takes(0, m, 3), x.times(m, 3));
        }
        due("takes(1, 0, 3)", x.takes(1, 0, 3), 2);
        due("takes(1, 2, 3)", x.takes(1, 2, 3), 4);
        due("takes(1, 5, 3)", x.takes(1, 5, 3), 0);
        due("coset(4, 0)", x.coset(4, 0), -1);
        due("coset(-1, 0)", x.coset(-1, 0), -1);
        due("coset(0, 6)", x.coset(0, 6), -1);
        due("coset(0, -1)", x.coset(0, -1), -1);
        due("takes(4, 0, 0)", x.takes(4, 0, 0), -1);
        due("takes(0, 6, 0)", x.takes(0, 6, 0), -1);
        due("takes(0, 0, 6)", x.takes(0, 0, 6), -1);
        due("takes(0, 0, -1)", x.takes(0, 0, -1), -1);
    }

    private static void more() {
        title = "22 moebius, 23 mixed, 24 centre, 27 meet, 28 join";
        TroupeSums x = told(THREE);
        int[] moebius = {3, -1, -1, 1};
        int[] mixed = {0, 0, 0, 2};
        int[] centre = {1, 3, 25, 1};
        int[][] join = {{0, 1, 2, 3}, {1, 1, 3, 3}, {2, 3, 2, 3}, {3, 3, 3, 3}};
        for (int i = 0; i < 4; i++) {
            due("moebius(" + i + ")", x.moebius(i), moebius[i]);
            due("mixed(" + i + ")", x.mixed(i), mixed[i]);
            due("centre(" + i + ")", x.centre(i), centre[i]);
            for (int j = 0; j < 4; j++) {
                due("join(" + i + ", " + j + ")", x.join(i, j), join[i][j]);
                due("meet(" + i + ", " + j + ")", x.meet(i, j), i == j ? i : i == 3 ? j : j == 3 ? i : 0);
            }
        }
        for (int none : new int[] {-1, 4, Integer.MAX_VALUE}) {
            due("moebius", x.moebius(none), NO_FRACTION);
            due("mixed", x.mixed(none), -1);
            due("centre", x.centre(none), -1);
            due("meet", x.meet(none, 0), -1);
            due("meet", x.meet(0, none), -1);
            due("join", x.join(none, 0), -1);
            due("join", x.join(0, none), -1);
        }
        TroupeSums eight = told("places 6; move 1 0 2 3 4 5; move 0 1 3 2 4 5; move 0 1 2 3 5 4;");
        due("moebius of three twos", eight.moebius(0), -8);
        due("mixed of even moves", told(FOUR).sort(told(FOUR).mixed(9), 0), 4);
        due("mixed of all", told(FOUR).sort(told(FOUR).mixed(10), 0), 12);
    }

    private static void peaks() {
        title = "31 peak, 32 local";
        TroupeSums x = told(THREE);
        int[][][] peaks = {
            {{1, 6}, {0, 1}, {0, 1}, {0, 1}},
            {{-1, 2}, {1, 1}, {0, 1}, {0, 1}},
            {{-1, 6}, {0, 1}, {1, 2}, {0, 1}},
            {{1, 2}, {-1, 1}, {-1, 2}, {1, 1}},
        };
        // by 2: SORTS 0 and 1, 2 and 3; by 3: 0 and 2
        int[][][] locals = {
            {{-1, 3}, {1, 1}, {0, 1}, {0, 1}},
            {{-1, 3}, {1, 1}, {0, 1}, {0, 1}},
            {{1, 3}, {-1, 1}, {0, 1}, {1, 1}},
            {{1, 3}, {-1, 1}, {0, 1}, {1, 1}},
        };
        for (int j = 0; j < 4; j++) {
            for (int i = 0; i < 4; i++) {
                for (int what = 0; what < 2; what++) {
                    String of = "(" + j + ", " + i + ", " + what + ")";
                    due("peak" + of, x.peak(j, i, what), peaks[j][i][what]);
                    due("local by 2 " + of, x.local(2, j, i, what), locals[j][i][what]);
                    due("local by 5 " + of, x.local(5, j, i, what), peaks[j][i][what]);
                }
            }
        }
        due("local by 3, above", x.local(3, 2, 2, 0), 1);
        due("local by 3, below", x.local(3, 2, 2, 1), 2);
        due("local by 3, none", x.local(3, 0, 0, 0), 0);
        due("local by 3, none, below", x.local(3, 0, 0, 1), 1);
        for (int none : new int[] {-1, 4}) {
            due("peak", x.peak(none, 0, 0), NO_FRACTION);
            due("peak", x.peak(0, none, 0), NO_FRACTION);
            due("local", x.local(2, none, 0, 0), NO_FRACTION);
            due("local", x.local(2, 0, none, 0), NO_FRACTION);
        }
        due("peak, what 2", x.peak(0, 0, 2), NO_FRACTION);
        due("peak, what -1", x.peak(0, 0, -1), NO_FRACTION);
        due("local, what 2", x.local(2, 0, 0, 2), NO_FRACTION);
        due("local by 4", x.local(4, 0, 0, 0), NO_FRACTION);
        due("local by 1", x.local(1, 0, 0, 0), NO_FRACTION);
    }

    private static void units() {
        title = "33 units, 34 unit";
        TroupeSums x = told(THREE);
        due("units", x.units(), 8);
        // MARKS: 1 1 1 1; 1 1 1 -1; 1 -1 1 1; 1 -1 1 -1; -1 1 -1 1; ..
        int[][] units = {{0, 0, 0, 1}, {-1, 2, 1, -1}, {1, -2, 0, 1}, {0, 0, 1, -1}, {0, 0, -1, 1}};
        for (int k = 0; k < 8; k++) {
            for (int i = 0; i < 4; i++) {
                int due = k < 5 ? units[k][i] : -units[7 - k][i];
                due("unit(" + k + ", " + i + ")", x.unit(k, i), due);
            }
        }
        due("unit(8, 0)", x.unit(8, 0), NO_FRACTION);
        due("unit(-1, 0)", x.unit(-1, 0), NO_FRACTION);
        due("unit(0, 4)", x.unit(0, 4), NO_FRACTION);
        due("unit(0, -1)", x.unit(0, -1), NO_FRACTION);
        due("three twos", told("places 6; move 1 0 2 3 4 5; move 0 1 3 2 4 5; move 0 1 2 3 5 4;").units(), 256);
        TroupeSums most = told("places 6; move 1 2 3 0 4 5; move 2 1 0 3 4 5; move 0 1 2 3 5 4;");
        due("27 sorts", most.units(), 1024);
        due("the last", most.unit(1023, 26), -1);
        due("none behind it", most.unit(1024, 0), NO_FRACTION);
        put(x, TWO);
        x.troupe();
        due("units of another", x.units(), 4);
    }

    private static void named() {
        title = "35 named, 45 uses";
        TroupeSums alike = told("places 1;let ab=1;let ba=2;let b=3;let aab=4;let aba=5;let zzzzzz=6;let zzzzz=7;let movea=ab*ba+aab*aba;");
        for (int k = 0; k < 7; k++) {
            due("names of the same letters: " + k, alike.named(k, 0), k + 1);
        }
        due("names of the same letters: the last", alike.named(7, 0), 22);
        fault("places 1;let a=1;b", 2, 17);
        put(alike, "ab");
        alike.end(1);
        due("a name's first letter", alike.makes(), -1);
        due("is no name", alike.fault(0), 3);
        TroupeSums x = told(THREE + "let a = 2 + sort 1; let b = a * a; let c = -(sort 2 - 1) ^ 2; let d = a - a;");
        long[][] due = {{0, 1, 0, 2}, {1, 5, 0, 4}, {0, 0, 0, -1}, {0, 0, 0, 0}};
        for (int k = 0; k < 4; k++) {
            for (int i = 0; i < 4; i++) {
                due("named(" + k + ", " + i + ")", x.named(k, i), due[k][i]);
            }
        }
        due("named(4, 0)", x.named(4, 0), NO_NUMBER);
        due("named(-1, 0)", x.named(-1, 0), NO_NUMBER);
        due("named(0, 4)", x.named(0, 4), NO_NUMBER);
        due("named(0, -1)", x.named(0, -1), NO_NUMBER);
        due("uses(1)", x.uses(1), 3);
        sum("uses(1)", x, 1, 5, 0, 4);
        due("uses(3)", x.uses(3), 0);
        due("uses(4)", x.uses(4), -1);
        due("uses(-1)", x.uses(-1), -1);
        due("two ACTS", x.about(7), 2);
    }

    private static void theSum() {
        title = "36 has, 37 marked, 38 character, 39 parts, 40 congruence, 41 is";
        TroupeSums x = told(THREE);
        makes(x, "3 - sort 1 + 2 * sort 0");
        sum("makes", x, 2, -1, 0, 3);
        long[] marks = {12, 2, 3, 3};
        // sort 0: (12 + 3 * 2 + 2 * 3) / 6; sort 1: 2 / 1; sort 2: (3 + 3) / 2; sort 3: 3 / 1
        long[] congruences = {4, 2, 3, 3};
        for (int i = 0; i < 4; i++) {
            due("marked(" + i + ")", x.marked(i), marks[i]);
            due("congruence(" + i + ")", x.congruence(i), congruences[i]);
        }
        long[] character = {12, 2, 2, 3, 3, 2};
        for (int m = 0; m < 6; m++) {
            due("character(" + m + ")", x.character(m), character[m]);
        }
        due("parts", x.parts(), 3);
        for (int none : new int[] {-1, 4}) {
            due("has", x.has(none), NO_NUMBER);
            due("marked", x.marked(none), NO_NUMBER);
            due("congruence", x.congruence(none), NO_NUMBER);
        }
        due("character(6)", x.character(6), NO_NUMBER);
        due("character(-1)", x.character(-1), NO_NUMBER);
        String[] sums = {"0", "1", "-1", "sort 2 - 1", "sort 1", "1 - sort 1", "2"};
        int[][] is = {{1, 1, 0, 1}, {1, 1, 1, 0}, {0, 0, 1, 0}, {0, 0, 1, 0}, {1, 0, 0, 1}, {0, 0, 0, 1}, {1, 0, 0, 0}};
        for (int k = 0; k < sums.length; k++) {
            makes(x, sums[k]);
            for (int what = 0; what < 4; what++) {
                due("is(" + what + ") of " + sums[k], x.is(what), is[k][what]);
            }
        }
        due("is(4)", x.is(4), -1);
        due("is(-1)", x.is(-1), -1);
    }

    private static void makesAct() {
        title = "42 makes";
        TroupeSums x = told(THREE + "let a = sort 1;");
        due("makes", makes(x, " a * a\n"), 2);
        sum("makes", x, 1, 1, 0, 0);
        due("the TAPE is empty", x.about(8), 0);
        String[] wrong = {"", "a;", "a a", "b", "sort 4", "999^5", "1 + 999^5", "999^5;", "(a", "1000", "let", "10^9*10^3+1", "-------1", "2 ^ 10"};
        int[] kinds = {2, 2, 2, 3, 4, 6, 6, 2, 2, 1, 2, 6, 5, 2};
        int[] places = {0, 1, 2, 0, 5, 0, 0, 5, 2, 0, 0, 0, 7, 4};
        for (int k = 0; k < wrong.length; k++) {
            due("makes of " + wrong[k], makes(x, wrong[k]), -1);
            due("fault(0) of " + wrong[k], x.fault(0), kinds[k]);
            due("fault(1) of " + wrong[k], x.fault(1), places[k]);
            due("the TAPE is empty", x.about(8), 0);
        }
        sum("THE SUM stays", x, 1, 1, 0, 0);
        due("one ACT", x.about(7), 1);
        String[] right = {"-2^2", "(-2)^2", "2-3-4", "2-3*4", "-2*-3", "2--3", "sort 0^0", "0^0", "(1+1)^3*2", "- - 3", "-(1-2)*3^2", "((2))^2"};
        long[] sums = {-4, 4, -5, -10, 6, 5, 1, 1, 16, 3, 9, 4};
        for (int k = 0; k < right.length; k++) {
            due("makes of " + right[k], makes(x, right[k]), 1);
            sum(right[k], x, 0, 0, 0, sums[k]);
        }
        due("makes of 0", makes(x, "a - a"), 0);
        due("powers", makes(x, "sort 1 ^ 3"), 2);
        sum("powers", x, 4, 1, 0, 0);
        makes(x, "10^9*10^3");
        sum("the largest", x, 0, 0, 0, 1000000000000L);
    }

    private static void takeAct() {
        title = "43 take";
        TroupeSums x = told(THREE);
        due("take(0, 99)", x.take(0, 99), 3);
        sum("places", x, 0, 1, 0, 0);
        long[][] sets = {{1, 0, 0, 0, 1}, {3, 0, 1, 0, 0}, {3, 0, 1, 0, 0}, {1, 0, 0, 0, 1}, {0, 0, 0, 0, 0}};
        for (int n = 0; n < 5; n++) {
            due("take(1, " + n + ")", x.take(1, n), sets[n][0]);
            sum("sets of " + n, x, sets[n][1], sets[n][2], sets[n][3], sets[n][4]);
        }
        long[][] paintings = {{0, 0, 0, 0, 0}, {1, 0, 0, 0, 1}, {8, 0, 2, 0, 2}, {27, 1, 6, 0, 3}};
        for (int n = 0; n < 4; n++) {
            due("take(2, " + n + ")", x.take(2, n), paintings[n][0]);
            sum("paintings with " + n, x, paintings[n][1], paintings[n][2], paintings[n][3], paintings[n][4]);
        }
        due("take(2, 6)", x.take(2, 6), 216);
        int acts = x.about(7);
        due("take(3, 1)", x.take(3, 1), -1);
        due("take(-1, 1)", x.take(-1, 1), -1);
        due("take(1, 7)", x.take(1, 7), -1);
        due("take(1, -1)", x.take(1, -1), -1);
        due("take(2, 7)", x.take(2, 7), -1);
        due("take(2, -1)", x.take(2, -1), -1);
        due("no ACT", x.about(7), acts);
        due("take(0, -1)", x.take(0, -1), 3);
        TroupeSums y = told("places 6; move 1 2 3 4 5 0;");
        due("paintings of 6 places", y.take(2, 6), 46656);
        due("what all keep", y.has(3), 6);
        due("sets of 3 of 6 places", y.take(1, 3), 20);
        sum("sets of 3", y, 3, 0, 1, 0);
    }

    private static void marksAct() {
        title = "44 marks";
        TroupeSums x = told(THREE);
        due("marks", marks(x, "12 2 3 3"), 0);
        sum("marks", x, 2, -1, 0, 3);
        due("marks with blanks", marks(x, " \n -6\n0  0 -0 \n"), 0);
        sum("marks", x, -1, 0, 0, 0);
        due("six digits", marks(x, "999999 999999 999999 -000001"), 0);
        due("has(3)", x.has(3), -1);
        due("six digits", marks(x, "999999 999999 999999 999999"), 0);
        sum("marks", x, 0, 0, 0, 999999);
        due("not at 0", marks(x, "1 0 0 0"), 1);
        due("not at 0", marks(x, "6 1 1 1"), 1);
        due("not at 2", marks(x, "1 1 1 0"), 3);
        due("the least", marks(x, "2 1 1 0"), 1);
        sum("THE SUM stays", x, 0, 0, 0, 999999);
        due("four ACTS", x.about(7), 4);
        String[] unlike = {"", " ", "1 1 1", "1 1 1 1 1", "1 1 1 x", "1 1 1 1x", "1 1 1 --1", "1 1 1 - 1", "1 1 1 1-", "1 1 1-1 1",
            "1 1 1 0000001", "1 1 1 -", "1\t1 1 1", "1 1 1 +1", "1,1 1 1", "1 1 1 1 -", "1 1 1 1;"};
        for (String text : unlike) {
            due("marks of " + text, marks(x, text), -2);
            due("the TAPE is empty", x.about(8), 0);
        }
        due("four ACTS", x.about(7), 4);
        due("fault", x.fault(0), 0);
    }

    private static void growsAct() {
        title = "46 grows";
        TroupeSums x = told(THREE);
        due("grows(9, 999, 1)", x.grows(9, 999, 1), 999);
        due("grows(-2, -1, 1)", x.grows(-2, -1, 1), -1999);
        due("grows(1, -999, 1)", x.grows(1, -999, 1), -2998);
        due("grows(1, 999, 1)", x.grows(1, 999, 1), -1999);
        due("grows(-9, 0, 1)", x.grows(-9, 0, 1), 17991);
        due("undo", x.undo(), 4);
        due("grows(1, 5, 3)", x.grows(1, 5, 3), 5);
        sum("grows", x, 0, -1999, 0, 5);
        int[][] wrong = {{10, 0, 0}, {-10, 0, 0}, {0, 1000, 0}, {0, -1000, 0}, {1, 1, 4}, {1, 1, -1}};
        for (int[] args : wrong) {
            due("grows of what can't be", x.grows(args[0], args[1], args[2]), NO_NUMBER);
        }
        due("five ACTS", x.about(7), 5);
        makes(x, "10^9*10^3");
        due("beyond", x.grows(1, 1, 3), NO_NUMBER);
        due("below", x.grows(-1, -1, 3), NO_NUMBER);
        due("twice", x.grows(2, 0, 3), NO_NUMBER);
        sum("THE SUM stays", x, 0, 0, 0, 1000000000000L);
        due("a MARK beyond", x.grows(1, 1, 0), NO_NUMBER);
        due("the other sign", x.grows(-1, 1, 0), 1);
        due("the other", x.has(3), -1000000000000L);
        due("none of itself", x.grows(0, -9, 3), -9);
        sum("none of itself", x, 0, 0, 0, -9);
    }

    private static void undo() {
        title = "47 undo";
        TroupeSums x = told(THREE + "let a = 7;");
        due("undo", x.undo(), -1);
        for (int n = 1; n <= 15; n++) {
            due("grows", x.grows(1, 1, 3), n);
            due("about(7)", x.about(7), Math.min(n, 12));
        }
        due("refused", x.grows(99, 0, 0), NO_NUMBER);
        for (int n = 1; n <= 12; n++) {
            due("undo", x.undo(), 12 - n);
            due("has(3)", x.has(3), 15 - n);
        }
        due("undo", x.undo(), -1);
        due("has(3)", x.has(3), 3);
        due("about(7)", x.about(7), 0);
        makes(x, "sort 1");
        x.take(0, 0);
        marks(x, "1 1 1 1");
        x.uses(0);
        x.grows(1, 1, 2);
        sum("five ACTS", x, 0, 0, 1, 7);
        due("undo grows", x.undo(), 4);
        sum("undo grows", x, 0, 0, 0, 7);
        due("undo uses", x.undo(), 3);
        sum("undo uses", x, 0, 0, 0, 1);
        due("undo marks", x.undo(), 2);
        sum("undo marks", x, 0, 1, 0, 0);
        due("undo take", x.undo(), 1);
        x.uses(0);
        due("undo the newest", x.undo(), 1);
        due("undo makes", x.undo(), 1 - 1);
        sum("undo makes", x, 0, 0, 0, 3);
    }

    public static void main(String[] args) {
        newObject();
        tape();
        troupe();
        faultsOfTokens();
        faultsOfPlace();
        faultsOfNamesAndNumbers();
        faultsOfMany();
        faultsOfSize();
        faultOfLatest();
        about();
        members();
        subgroups();
        marksOfSorts();
        residues();
        places();
        cosets();
        more();
        peaks();
        units();
        named();
        theSum();
        makesAct();
        takeAct();
        marksAct();
        growsAct();
        undo();
        CHECK.finish();
    }
}
