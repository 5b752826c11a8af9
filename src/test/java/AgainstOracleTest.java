import java.nio.charset.StandardCharsets;
import java.util.ArrayList;
import java.util.List;
import java.util.Random;

/** Runs of calls by chance (always the same ones), each answer compared with the oracle's. */
public final class AgainstOracleTest {
    private static final Check CHECK = new Check("AgainstOracleTest");

    /** Moves of groups with at most 24 members, for each number of places from 1. */
    private static final String[][] GROUPS = {
        {""},
        {"", "move 1 0;"},
        {"", "move 1 2 0;", "move 0 2 1;", "move 1 2 0; move 1 0 2;"},
        {"move 1 2 3 0;", "move 1 0 3 2; move 2 3 0 1;", "move 1 0 2 3; move 0 1 3 2;", "move 1 2 3 0; move 2 1 0 3;",
            "move 1 2 0 3; move 1 0 3 2;", "move 1 2 3 0; move 1 0 2 3;", "move 1 2 0 3; move 1 0 2 3;"},
        {"move 1 2 3 4 0;", "move 1 2 3 4 0; move 0 4 3 2 1;", "move 1 2 3 4 0; move 0 2 4 1 3;",
            "move 1 2 0 3 4; move 1 0 2 3 4; move 0 1 2 4 3;", "move 1 2 0 4 3;", "move 1 0 2 4 3; move 1 2 0 3 4;",
            "move 1 2 3 0 4; move 1 0 2 3 4;"},
        {"move 1 0 2 3 4 5; move 0 1 3 2 4 5; move 0 1 2 3 5 4;", "move 1 2 3 0 4 5; move 2 1 0 3 4 5; move 0 1 2 3 5 4;",
            "move 1 2 0 4 5 3;", "move 1 2 0 3 4 5; move 0 1 2 4 5 3;", "move 1 2 0 3 4 5; move 0 1 2 4 5 3; move 0 2 1 3 5 4;",
            "move 1 2 0 3 4 5; move 0 1 2 4 5 3; move 0 2 1 3 4 5;", "move 1 2 3 4 5 0;", "move 1 2 3 4 5 0; move 5 4 3 2 1 0;",
            "move 1 2 0 3 4 5; move 1 0 3 2 4 5; move 0 1 2 3 5 4;", "move 1 2 3 0 5 4; move 1 0 2 3 5 4;",
            "move 1 2 3 0 5 4;", "move 1 0 3 2 4 5; move 2 3 0 1 4 5; move 0 1 2 3 5 4;",
            "move 2 3 4 5 0 1; move 1 0 3 2 4 5;", "move 1 2 0 4 5 3; move 3 5 4 0 2 1;"},
    };
    private static final String[] NAMES = {"a", "b", "abc", "sorts", "lets", "zz", "moved", "place", "q", "abcdef"};

    private static String pick(Random random, String... some) {
        return some[random.nextInt(some.length)];
    }

    private static String blank(Random random) {
        return pick(random, " ", " ", "\n", "  ", " \n");
    }

    private static String maybe(Random random) {
        return random.nextInt(5) == 0 ? blank(random) : "";
    }

    private static String troupe(Random random) {
        int places = random.nextInt(4) == 0 ? 1 + random.nextInt(6) : 3 + random.nextInt(4);
        StringBuilder text = new StringBuilder(maybe(random) + "places" + maybe(random) + places + maybe(random) + ";");
        if (random.nextInt(10) == 0) {
            for (int k = random.nextInt(6); k > 0; k--) {
                text.append("move");
                List<Integer> row = new ArrayList<>();
                for (int p = 0; p < places; p++) {
                    row.add(random.nextInt(row.size() + 1), p);
                }
                for (int p : row) {
                    text.append(' ').append(p);
                }
                text.append(";");
            }
        } else {
            text.append(pick(random, GROUPS[places - 1]));
        }
        int sorts = sortsOf(text.toString());
        int lets = random.nextInt(3) == 0 ? random.nextInt(10) : random.nextInt(4);
        for (int k = 0; k < lets; k++) {
            int name = random.nextInt(40) == 0 ? 0 : k;
            text.append(maybe(random)).append("let ").append(NAMES[name]).append(maybe(random)).append("=")
                    .append(expression(random, 1 + random.nextInt(6), 0, sorts, k)).append(";").append(maybe(random));
        }
        return text.toString();
    }

    /** How many sorts the group of a text has, 1 if the text is not right. */
    private static int sortsOf(String text) {
        Oracle oracle = new Oracle();
        byte[] bytes = text.getBytes(StandardCharsets.ISO_8859_1);
        for (int[] five : Both.fives(bytes)) {
            oracle.feed(five);
        }
        oracle.end(bytes.length);
        oracle.troupe();
        return oracle.about(5);
    }

    private static String expression(Random random, int units, int around, int sorts, int names) {
        StringBuilder text = new StringBuilder();
        for (int k = 0; k < units; k++) {
            if (k > 0) {
                text.append(maybe(random)).append(pick(random, "+", "-", "*", "*")).append(maybe(random));
            }
            text.append(factor(random, around, sorts, names));
        }
        return text.toString();
    }

    private static String factor(Random random, int around, int sorts, int names) {
        String power = "";
        if (random.nextInt(5) == 0) {
            power = maybe(random) + "^" + maybe(random) + random.nextInt(random.nextInt(40) == 0 ? 12 : 5);
        }
        boolean any = random.nextInt(60) == 0;
        switch (random.nextInt(8)) {
            case 0: case 1: return (random.nextInt(3) == 0 ? random.nextInt(1000) : random.nextInt(4)) + power;
            case 2: case 3: case 4: return "sort" + maybe(random) + random.nextInt(any ? 1000 : sorts) + power;
            case 5: return any ? "no" : names == 0 ? "2" : NAMES[random.nextInt(names)] + power;
            case 6:
                return around > 7 ? "1"
                        : "(" + expression(random, 1 + random.nextInt(3), around + 1, sorts, names) + ")" + power;
            default: return around > 7 ? "1" : "-" + maybe(random) + factor(random, around + 1, sorts, names);
        }
    }

    private static byte[] spoil(Random random, String text) {
        StringBuilder result = new StringBuilder(text);
        if (random.nextInt(3) == 0) {
            for (int k = random.nextInt(3); k >= 0; k--) {
                int at = random.nextInt(result.length() + 1);
                String some = pick(random, " ", "\n", ";", "(", ")", "^", "*", "-", "+", "=", "0", "7", "12", "1234", "x", "sort", " let ",
                        " move ", "places", "\t", "A", "\u00e9", "abcdefg", "9z", "^10", "\0");
                switch (random.nextInt(3)) {
                    case 0: result.insert(at, some); break;
                    case 1:
                        if (at < result.length()) {
                            result.deleteCharAt(at);
                        }
                        break;
                    default:
                        result.replace(at, Math.min(result.length(), at + 1), some);
                }
            }
        }
        if (result.length() > 700) {
            result.setLength(700);
        }
        return result.toString().getBytes(StandardCharsets.ISO_8859_1);
    }

    private static int odd(Random random, int below) {
        int[] others = {-1, below, below + 1, Integer.MIN_VALUE, Integer.MAX_VALUE, 31, 32, -32};
        return random.nextInt(12) == 0 ? others[random.nextInt(others.length)] : random.nextInt(Math.max(below, 1));
    }

    private static void ask(Random random, Both both) {
        int members = (int) both.call("about", 3);
        int sorts = (int) both.call("about", 5);
        int places = (int) both.call("about", 0);
        int what = odd(random, 3);
        int prime = new int[] {2, 3, 5, 2, 3, 5, 4, 7, 1, 0, -2}[random.nextInt(11)];
        int i = odd(random, sorts);
        int j = odd(random, sorts);
        int k = odd(random, sorts);
        int m = odd(random, members);
        int bits = random.nextInt(20) == 0 ? random.nextInt() : random.nextInt() & random.nextInt() & (int) ((1L << members) - 1);
        switch (random.nextInt(42)) {
            case 0: both.call("moves", m, odd(random, places)); break;
            case 1: both.call("times", m, odd(random, members)); break;
            case 2: both.call("order", m); break;
            case 3: both.call("makesOf", bits); break;
            case 4: both.call("sortOf", bits); break;
            case 5: both.call("sort", i, odd(random, 6)); break;
            case 6: both.call("within", i, j); break;
            case 7: both.call("mark", i, j); break;
            case 8: both.call("product", i, j, k); break;
            case 9: both.call("residue", i, prime); break;
            case 10: both.call("block", i, prime); break;
            case 11: both.call("keeper", odd(random, places)); break;
            case 12: both.call("orbit", odd(random, places)); break;
            case 13: both.call("coset", i, m); break;
            case 14: both.call("takes", i, m, odd(random, members)); break;
            case 15: both.call("moebius", i); break;
            case 16: both.call("mixed", i); break;
            case 17: both.call("centre", i); break;
            case 18: both.call("pairs", i, j); break;
            case 19: both.call("alike"); break;
            case 20: both.call("meet", i, j); break;
            case 21: both.call("join", i, j); break;
            case 22: both.call("orders", odd(random, 26)); break;
            case 23: both.call("likes", m); break;
            case 24: both.call("peak", j, i, odd(random, 2)); break;
            case 25: both.call("local", prime, j, i, odd(random, 2)); break;
            case 26: both.call("units"); break;
            case 27: both.call("unit", odd(random, random.nextInt(3) == 0 ? 1024 : 4), i); break;
            case 28: both.call("named", odd(random, 8), i); break;
            case 29: both.call("has", i); break;
            case 30: both.call("marked", i); break;
            case 31: both.call("character", m); break;
            case 32: both.call("parts"); break;
            case 33: both.call("congruence", i); break;
            case 34: both.call("is", odd(random, 4)); break;
            case 35: both.call("take", what, odd(random, 7)); break;
            case 36: both.call("uses", odd(random, 5)); break;
            case 37: both.call("grows", random.nextInt(21) - 10, (random.nextInt(2) == 0 ? 10 : 1001) * (random.nextInt(3) - 1), i); break;
            case 38: both.call("undo"); break;
            case 39: both.call("about", odd(random, 9)); break;
            case 40: both.call("fault", odd(random, 2)); break;
            default:
                if (random.nextBoolean()) {
                    row(random, both, sorts);
                } else {
                    both.put(spoil(random, expression(random, 1 + random.nextInt(8), 0, sorts,
                            (int) both.call("about", 2))));
                    both.call("makes");
                }
                both.call("fault", 0);
                both.call("fault", 1);
        }
    }

    /** A row of marks: those of THE SUM, as they are or with one changed, or any. */
    private static void row(Random random, Both both, int sorts) {
        StringBuilder text = new StringBuilder(maybe(random));
        int changed = random.nextInt(2) == 0 ? -1 : random.nextInt(sorts);
        for (int j = 0; j < sorts; j++) {
            long mark = both.call("marked", j);
            mark = Math.abs(mark) > 99999 ? mark % 24 : mark;
            text.append(j == changed ? mark + random.nextInt(25) - 12 : mark).append(blank(random));
        }
        if (random.nextInt(3) == 0) {
            text.append(pick(random, "1", "-", "x", "- 1", "--1", "1-2", "\t", "1234567"));
        } else if (random.nextInt(8) == 0) {
            text.insert(random.nextInt(text.length()), pick(random, "1", "-", " ", "\n", "a"));
        }
        if (text.length() > 700) {
            text.setLength(700);
        }
        both.put(text.toString());
        both.call("marks");
    }

    public static void main(String[] args) {
        int runs = args.length > 0 ? Integer.parseInt(args[0]) : 400;
        int from = args.length > 1 ? Integer.parseInt(args[1]) : 0;
        for (int run = from; run < from + runs; run++) {
            Random random = new Random(run);
            Both both = new Both(CHECK, "run " + run);
            while (both.calls < 420) {
                if (random.nextInt(40) == 0 || both.calls < 20) {
                    byte[] text = spoil(random, troupe(random));
                    if (text.length > 0) {
                        both.put(text);
                    }
                    both.call("troupe");
                    both.call("fault", 0);
                    both.call("fault", 1);
                    both.call("about", 8);
                }
                ask(random, both);
            }
        }
        CHECK.finish();
    }
}
