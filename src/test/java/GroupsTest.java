import java.util.ArrayDeque;
import java.util.ArrayList;
import java.util.Arrays;
import java.util.BitSet;
import java.util.Deque;
import java.util.HashMap;
import java.util.HashSet;
import java.util.List;
import java.util.Map;
import java.util.Set;
import java.util.TreeMap;

/**
 * All groups with at most 24 members that move six places: what each has of sorts, marks, units and
 * the like is compared with the oracle's, and of one group of each kind all that can be asked.
 */
public final class GroupsTest {
    private static final Check CHECK = new Check("GroupsTest");
    private static final List<int[]> MOVES = new ArrayList<>();
    private static int[][] table;

    private static void findMoves(int[] row, int from) {
        if (from == row.length) {
            MOVES.add(row.clone());
            return;
        }
        for (int i = from; i < row.length; i++) {
            swap(row, from, i);
            findMoves(row, from + 1);
            swap(row, from, i);
        }
    }

    private static void swap(int[] row, int i, int j) {
        int kept = row[i];
        row[i] = row[j];
        row[j] = kept;
    }

    private static void fillTable() {
        findMoves(new int[] {0, 1, 2, 3, 4, 5}, 0);
        Map<Integer, Integer> index = new HashMap<>();
        for (int i = 0; i < MOVES.size(); i++) {
            index.put(code(MOVES.get(i)), i);
        }
        table = new int[MOVES.size()][MOVES.size()];
        for (int a = 0; a < table.length; a++) {
            for (int b = 0; b < table.length; b++) {
                int[] row = new int[6];
                for (int p = 0; p < 6; p++) {
                    row[p] = MOVES.get(b)[MOVES.get(a)[p]];
                }
                table[a][b] = index.get(code(row));
            }
        }
    }

    private static int code(int[] row) {
        int code = 0;
        for (int p : row) {
            code = code * 6 + p;
        }
        return code;
    }

    /** The group that some moves make (move 0 moves nothing), null if it has more than 24 members. */
    private static BitSet span(BitSet some) {
        BitSet span = new BitSet();
        int[] found = new int[25];
        int count = 1;
        span.set(0);
        for (int i = 0; i < count; i++) {
            for (int g = some.nextSetBit(0); g >= 0; g = some.nextSetBit(g + 1)) {
                int next = table[found[i]][g];
                if (!span.get(next)) {
                    if (count == 24) {
                        return null;
                    }
                    span.set(next);
                    found[count++] = next;
                }
            }
        }
        return span;
    }

    private static Set<BitSet> allGroups() {
        Set<BitSet> all = new HashSet<>();
        Deque<BitSet> todo = new ArrayDeque<>();
        todo.add(span(new BitSet()));
        all.addAll(todo);
        while (!todo.isEmpty()) {
            BitSet group = todo.poll();
            for (int g = group.nextClearBit(0); g < table.length; g = group.nextClearBit(g + 1)) {
                BitSet more = (BitSet) group.clone();
                more.set(g);
                more = span(more);
                if (more != null && all.add(more)) {
                    todo.add(more);
                }
            }
        }
        return all;
    }

    private static String textOf(BitSet group) {
        StringBuilder text = new StringBuilder("places 6;");
        BitSet some = new BitSet();
        for (int g = group.nextSetBit(0); g >= 0; g = group.nextSetBit(g + 1)) {
            BitSet made = span(some);
            if (!made.get(g)) {
                some.set(g);
                text.append("move");
                for (int p : MOVES.get(g)) {
                    text.append(' ').append(p);
                }
                text.append(';');
            }
        }
        return text.toString();
    }

    /** Asks anything, of a new object when one has been asked enough. */
    private static final class Asker {
        private final String text;
        private Both both;

        Asker(String text) {
            this.text = text;
            renew();
        }

        private void renew() {
            both = new Both(CHECK, text);
            both.put(text);
            both.call("troupe");
        }

        long ask(String name, int... args) {
            if (both.calls >= 500) {
                renew();
            }
            return both.call(name, args);
        }
    }

    private static void askMost(Asker asker) {
        int sorts = (int) asker.ask("about", 5);
        asker.ask("about", 3);
        asker.ask("about", 4);
        asker.ask("about", 6);
        asker.ask("alike");
        asker.ask("units");
        for (int i = 0; i < sorts; i++) {
            asker.ask("sort", i, 1);
            asker.ask("sort", i, 2);
            asker.ask("moebius", i);
            asker.ask("unit", 1, i);
            for (int j = 0; j < sorts; j++) {
                asker.ask("mark", i, j);
            }
        }
    }

    private static void askAll(Asker asker) {
        int sorts = (int) asker.ask("about", 5);
        int members = (int) asker.ask("about", 3);
        int units = (int) asker.ask("units");
        for (int i = -1; i <= sorts; i++) {
            for (String name : new String[] {"moebius", "mixed", "centre", "has", "marked"}) {
                asker.ask(name, i);
            }
            for (int what = -1; what <= 6; what++) {
                asker.ask("sort", i, what);
                asker.ask("residue", i, what);
                asker.ask("block", i, what);
            }
            for (int j = -1; j <= sorts; j++) {
                for (String name : new String[] {"within", "mark", "pairs", "meet", "join"}) {
                    asker.ask(name, i, j);
                }
                for (int k = 0; k < sorts; k += 1 + sorts / 6) {
                    asker.ask("product", i, j, (k + i + j + 2) % sorts);
                }
                for (int what = -1; what <= 2; what++) {
                    asker.ask("peak", i, j, what);
                    asker.ask("local", new int[] {3, 2, 3, 5}[what + 1], i, j, what);
                    asker.ask("local", 2, i, j, what);
                    asker.ask("local", what, i, j, 0);
                }
            }
            for (int k = -1; k <= units; k += 1 + units / 60) {
                asker.ask("unit", k, i);
            }
            asker.ask("unit", units - 1, i);
            asker.ask("unit", units, i);
            for (int m = -1; m <= members; m++) {
                asker.ask("coset", i, m);
                for (int g = -1; g <= members; g += 1 + members / 5) {
                    asker.ask("takes", i, m, (g + i + m + 2) % (members + 1));
                }
            }
        }
        askMembers(asker, members);
    }

    private static void askMembers(Asker asker, int members) {
        for (int m = -1; m <= members; m++) {
            asker.ask("order", m);
            asker.ask("likes", m);
            asker.ask("character", m);
            for (int p = -1; p <= 6; p++) {
                asker.ask("moves", m, p);
            }
            for (int g = -1; g <= members; g++) {
                asker.ask("times", m, g);
                asker.ask("makesOf", 1 << m | 1 << g);
                asker.ask("sortOf", 1 << m | 1 << g);
            }
        }
        for (int n = -1; n <= 26; n++) {
            asker.ask("orders", n);
            asker.ask("keeper", n);
            asker.ask("orbit", n);
        }
    }

    public static void main(String[] args) {
        fillTable();
        Set<BitSet> groups = allGroups();
        CHECK.same("groups with at most 24 members", groups.size(), 1359);
        Map<String, String> kinds = new TreeMap<>();
        for (BitSet group : groups) {
            String text = textOf(group);
            Asker asker = new Asker(text);
            askMost(asker);
            StringBuilder kind = new StringBuilder();
            kind.append(asker.ask("about", 3)).append(' ').append(asker.ask("about", 4)).append(' ').append(asker.ask("about", 5));
            int[] reached = new int[6];
            for (int p = 0; p < 6; p++) {
                reached[p] = Long.bitCount(asker.ask("orbit", p));
            }
            Arrays.sort(reached);
            kind.append(' ').append(Arrays.toString(reached));
            String before = kinds.get(kind.toString());
            if (before == null || text.compareTo(before) < 0) {
                kinds.put(kind.toString(), text);
            }
        }
        for (String text : kinds.values()) {
            askAll(new Asker(text));
        }
        System.out.println("GroupsTest: " + groups.size() + " groups, all asked of " + kinds.size());
        CHECK.finish();
    }
}
