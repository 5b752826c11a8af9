import java.math.BigInteger;
import java.util.ArrayDeque;
import java.util.ArrayList;
import java.util.Arrays;
import java.util.Collections;
import java.util.Deque;
import java.util.HashMap;
import java.util.HashSet;
import java.util.List;
import java.util.Map;
import java.util.Set;
import java.util.TreeSet;

/**
 * A second program for the same document, plain and slow, written from its terms: sets are sets,
 * cosets are sets of members, sums are multiplied by taking products of sets apart into their
 * parts, fractions and numbers are as large as they come.
 */
final class Oracle {
    static final long NO_NUMBER = Long.MIN_VALUE;
    static final int NO_FRACTION = -1000000;
    static final BigInteger LARGEST = BigInteger.valueOf(1_000_000_000_000L);

    /** A fault of a text. */
    static final class Fault extends RuntimeException {
        final int kind;
        final int place;

        Fault(int kind, int place) {
            super(null, null, false, false);
            this.kind = kind;
            this.place = place;
        }
    }

    /** A group with all that follows from its moves. */
    static final class World {
        int places;
        List<int[]> moves = new ArrayList<>();
        List<int[]> members = new ArrayList<>();
        int[][] table;
        int[] undoer;
        List<Set<Integer>> subgroups;
        List<List<Set<Integer>>> sorts;
        int[][] marks;
        int[][][] products;
        long[][] unitRows;

        World(int places) {
            this.places = places;
            grow();
        }

        /** False if there are more than 24 members by this move. */
        boolean add(int[] move) {
            moves.add(move);
            return grow();
        }

        private boolean grow() {
            int[] still = new int[places];
            for (int p = 0; p < places; p++) {
                still[p] = p;
            }
            Set<List<Integer>> all = new HashSet<>();
            Deque<List<Integer>> todo = new ArrayDeque<>();
            all.add(list(still));
            todo.add(list(still));
            while (!todo.isEmpty()) {
                List<Integer> one = todo.poll();
                for (int[] move : moves) {
                    List<Integer> next = new ArrayList<>();
                    for (int p : one) {
                        next.add(move[p]);
                    }
                    if (all.add(next)) {
                        todo.add(next);
                    }
                }
            }
            members.clear();
            for (List<Integer> row : all) {
                members.add(row.stream().mapToInt(v -> v).toArray());
            }
            members.sort(Arrays::compare);
            return members.size() <= 24;
        }

        private static List<Integer> list(int[] row) {
            List<Integer> result = new ArrayList<>();
            for (int v : row) {
                result.add(v);
            }
            return result;
        }

        void finish() {
            int n = members.size();
            table = new int[n][n];
            undoer = new int[n];
            for (int a = 0; a < n; a++) {
                for (int b = 0; b < n; b++) {
                    int[] row = new int[places];
                    for (int p = 0; p < places; p++) {
                        row[p] = members.get(b)[members.get(a)[p]];
                    }
                    for (int c = 0; c < n; c++) {
                        if (Arrays.equals(row, members.get(c))) {
                            table[a][b] = c;
                        }
                    }
                    if (table[a][b] == 0) {
                        undoer[a] = b;
                    }
                }
            }
            findSubgroups();
            findSorts();
            findMarks();
            products = new int[sorts.size()][sorts.size()][];
        }

        int size() {
            return members.size();
        }

        Set<Integer> span(Set<Integer> some) {
            Set<Integer> result = new TreeSet<>(some);
            result.add(0);
            while (true) {
                Set<Integer> more = new TreeSet<>(result);
                for (int a : result) {
                    for (int b : result) {
                        more.add(table[a][b]);
                    }
                }
                if (more.size() == result.size()) {
                    return result;
                }
                result = more;
            }
        }

        static int bits(Set<Integer> set) {
            int bits = 0;
            for (int x : set) {
                bits |= 1 << x;
            }
            return bits;
        }

        Set<Integer> setOf(int bits) {
            Set<Integer> set = new TreeSet<>();
            for (int x = 0; x < 32; x++) {
                if ((bits >>> x & 1) == 1) {
                    set.add(x);
                }
            }
            return set;
        }

        Set<Integer> all() {
            return setOf((1 << size()) - 1);
        }

        /** Every subgroup is made by those that single members make, two put together at a time. */
        private void findSubgroups() {
            Set<Set<Integer>> single = new HashSet<>();
            for (int x = 0; x < size(); x++) {
                single.add(span(new TreeSet<>(List.of(x))));
            }
            Set<Set<Integer>> known = new HashSet<>(single);
            Deque<Set<Integer>> todo = new ArrayDeque<>(single);
            while (!todo.isEmpty()) {
                Set<Integer> one = todo.poll();
                for (Set<Integer> other : single) {
                    Set<Integer> both = new TreeSet<>(one);
                    if (!both.addAll(other)) {
                        continue;
                    }
                    both = span(both);
                    if (known.add(both)) {
                        todo.add(both);
                    }
                }
            }
            subgroups = new ArrayList<>(known);
        }

        Set<Integer> turned(Set<Integer> set, int g) {
            Set<Integer> result = new TreeSet<>();
            for (int x : set) {
                result.add(table[table[undoer[g]][x]][g]);
            }
            return result;
        }

        private void findSorts() {
            List<List<Set<Integer>>> found = new ArrayList<>();
            Set<Set<Integer>> done = new HashSet<>();
            for (Set<Integer> h : subgroups) {
                if (done.contains(h)) {
                    continue;
                }
                Set<Set<Integer>> alike = new HashSet<>();
                for (int g = 0; g < size(); g++) {
                    alike.add(turned(h, g));
                }
                done.addAll(alike);
                List<Set<Integer>> row = new ArrayList<>(alike);
                row.sort((a, b) -> Integer.compare(bits(a), bits(b)));
                found.add(row);
            }
            found.sort((a, b) -> a.get(0).size() != b.get(0).size()
                    ? Integer.compare(a.get(0).size(), b.get(0).size())
                    : Integer.compare(bits(a.get(0)), bits(b.get(0))));
            sorts = found;
        }

        Set<Integer> first(int sort) {
            return sorts.get(sort).get(0);
        }

        int sortOf(Set<Integer> h) {
            for (int i = 0; i < sorts.size(); i++) {
                if (sorts.get(i).contains(h)) {
                    return i;
                }
            }
            throw new IllegalStateException();
        }

        Set<Integer> coset(Set<Integer> h, int x) {
            Set<Integer> result = new TreeSet<>();
            for (int y : h) {
                result.add(table[y][x]);
            }
            return result;
        }

        Set<Integer> cosetTaken(Set<Integer> coset, int g) {
            Set<Integer> result = new TreeSet<>();
            for (int x : coset) {
                result.add(table[x][g]);
            }
            return result;
        }

        List<Set<Integer>> cosets(int sort) {
            Set<Set<Integer>> result = new HashSet<>();
            for (int x = 0; x < size(); x++) {
                result.add(coset(first(sort), x));
            }
            return new ArrayList<>(result);
        }

        private void findMarks() {
            int n = sorts.size();
            marks = new int[n][n];
            for (int i = 0; i < n; i++) {
                List<Set<Integer>> set = cosets(i);
                for (int j = 0; j < n; j++) {
                    for (Set<Integer> coset : set) {
                        boolean kept = true;
                        for (int g : first(j)) {
                            kept &= cosetTaken(coset, g).equals(coset);
                        }
                        if (kept) {
                            marks[i][j]++;
                        }
                    }
                }
            }
        }

        /** Of each sort how many parts of a set are like the set of the sort. */
        int[] takeApart(int points, int[][] moved) {
            int[] result = new int[sorts.size()];
            boolean[] seen = new boolean[points];
            for (int point = 0; point < points; point++) {
                if (seen[point]) {
                    continue;
                }
                Set<Integer> keepers = new TreeSet<>();
                for (int g = 0; g < size(); g++) {
                    seen[moved[g][point]] = true;
                    if (moved[g][point] == point) {
                        keepers.add(g);
                    }
                }
                result[sortOf(keepers)]++;
            }
            return result;
        }

        int[] product(int i, int j) {
            if (products[i][j] == null) {
                List<Set<Integer>> left = cosets(i);
                List<Set<Integer>> right = cosets(j);
                int points = left.size() * right.size();
                int[][] moved = new int[size()][points];
                for (int g = 0; g < size(); g++) {
                    int[] leftTo = new int[left.size()];
                    int[] rightTo = new int[right.size()];
                    for (int a = 0; a < leftTo.length; a++) {
                        leftTo[a] = left.indexOf(cosetTaken(left.get(a), g));
                    }
                    for (int b = 0; b < rightTo.length; b++) {
                        rightTo[b] = right.indexOf(cosetTaken(right.get(b), g));
                    }
                    for (int a = 0; a < leftTo.length; a++) {
                        for (int b = 0; b < rightTo.length; b++) {
                            moved[g][a * rightTo.length + b] = leftTo[a] * rightTo.length + rightTo[b];
                        }
                    }
                }
                products[i][j] = takeApart(points, moved);
            }
            return products[i][j];
        }

        Set<Integer> norm(Set<Integer> h) {
            Set<Integer> result = new TreeSet<>();
            for (int g = 0; g < size(); g++) {
                if (turned(h, g).equals(h)) {
                    result.add(g);
                }
            }
            return result;
        }

        /** The sum of CONGRUENCE at a sort, and how many cosets it is told of. */
        BigInteger[] congruence(int sort, BigInteger[] row) {
            Set<Integer> h = first(sort);
            Set<Set<Integer>> told = new HashSet<>();
            for (int g : norm(h)) {
                told.add(coset(h, g));
            }
            BigInteger sum = BigInteger.ZERO;
            for (Set<Integer> one : told) {
                Set<Integer> both = new TreeSet<>(h);
                both.addAll(one);
                sum = sum.add(row[sortOf(span(both))]);
            }
            return new BigInteger[] {sum, BigInteger.valueOf(told.size())};
        }

        int residue(int sort, int p) {
            Set<Integer> whole = first(sort);
            Set<Integer> least = null;
            for (Set<Integer> h : subgroups) {
                if (!whole.containsAll(h)) {
                    continue;
                }
                boolean kept = true;
                for (int g : whole) {
                    kept &= turned(h, g).equals(h);
                }
                int by = whole.size() / h.size();
                while (by % p == 0) {
                    by /= p;
                }
                if (kept && by == 1 && (least == null || h.size() < least.size())) {
                    least = h;
                }
            }
            return sortOf(least);
        }

        int block(int sort, int p) {
            int bits = 0;
            for (int i = 0; i < sorts.size(); i++) {
                if (residue(i, p) == residue(sort, p)) {
                    bits |= 1 << i;
                }
            }
            return bits;
        }

        int moebius(Set<Integer> h) {
            if (h.size() == size()) {
                return 1;
            }
            int value = 0;
            for (Set<Integer> k : subgroups) {
                if (k.size() > h.size() && k.containsAll(h)) {
                    value -= moebius(k);
                }
            }
            return value;
        }

        /** The numbers (fractions: above, below) of the row that has these marks. */
        BigInteger[][] solve(BigInteger[] wanted) {
            int n = sorts.size();
            BigInteger[][] result = new BigInteger[n][2];
            for (int k = n - 1; k >= 0; k--) {
                BigInteger above = wanted[k];
                BigInteger below = BigInteger.ONE;
                for (int i = k + 1; i < n; i++) {
                    // above/below - result * mark
                    BigInteger mark = BigInteger.valueOf(marks[i][k]);
                    above = above.multiply(result[i][1]).subtract(result[i][0].multiply(mark).multiply(below));
                    below = below.multiply(result[i][1]);
                    BigInteger both = above.gcd(below);
                    above = above.divide(both);
                    below = below.divide(both);
                }
                below = below.multiply(BigInteger.valueOf(marks[k][k]));
                BigInteger both = above.gcd(below);
                result[k][0] = above.divide(both);
                result[k][1] = below.divide(both);
            }
            return result;
        }

        BigInteger[][] peak(int sortBits) {
            BigInteger[] row = new BigInteger[sorts.size()];
            for (int i = 0; i < row.length; i++) {
                row[i] = BigInteger.valueOf(sortBits >> i & 1);
            }
            return solve(row);
        }

        BigInteger[] marksOf(BigInteger[] sum) {
            BigInteger[] row = new BigInteger[sorts.size()];
            for (int j = 0; j < row.length; j++) {
                row[j] = BigInteger.ZERO;
                for (int i = 0; i < row.length; i++) {
                    row[j] = row[j].add(sum[i].multiply(BigInteger.valueOf(marks[i][j])));
                }
            }
            return row;
        }

        BigInteger[] nought() {
            BigInteger[] sum = new BigInteger[sorts.size()];
            Arrays.fill(sum, BigInteger.ZERO);
            return sum;
        }

        BigInteger[] single(int sort, long number) {
            BigInteger[] sum = nought();
            sum[sort] = BigInteger.valueOf(number);
            return sum;
        }

        BigInteger[] times(BigInteger[] a, BigInteger[] b) {
            BigInteger[] sum = nought();
            for (int i = 0; i < a.length; i++) {
                for (int j = 0; j < a.length; j++) {
                    if (a[i].signum() == 0 || b[j].signum() == 0) {
                        continue;
                    }
                    BigInteger number = a[i].multiply(b[j]);
                    int[] parts = product(i, j);
                    for (int k = 0; k < parts.length; k++) {
                        sum[k] = sum[k].add(number.multiply(BigInteger.valueOf(parts[k])));
                    }
                }
            }
            return sum;
        }

        boolean fits(BigInteger[] sum) {
            for (BigInteger v : sum) {
                if (v.abs().compareTo(LARGEST) > 0) {
                    return false;
                }
            }
            for (BigInteger v : marksOf(sum)) {
                if (v.abs().compareTo(LARGEST) > 0) {
                    return false;
                }
            }
            return true;
        }

        /** All rows of 1 and -1 that have CONGRUENCE at each sort, tried from the last sort on. */
        long[][] units() {
            if (unitRows == null) {
                List<long[]> rows = new ArrayList<>();
                int n = sorts.size();
                int[][] joined = new int[n][];
                int[] by = new int[n];
                for (int j = 0; j < n; j++) {
                    Set<Integer> h = first(j);
                    Set<Set<Integer>> told = new HashSet<>();
                    for (int g : norm(h)) {
                        told.add(coset(h, g));
                    }
                    by[j] = told.size();
                    joined[j] = told.stream().mapToInt(one -> {
                        Set<Integer> both = new TreeSet<>(h);
                        both.addAll(one);
                        return sortOf(span(both));
                    }).toArray();
                }
                tryUnits(n - 1, new int[n], joined, by, rows);
                rows.sort((a, b) -> {
                    for (int i = 0; i < n; i++) {
                        if (a[i] != b[i]) {
                            return a[i] > b[i] ? -1 : 1;
                        }
                    }
                    return 0;
                });
                unitRows = rows.toArray(new long[0][]);
            }
            return unitRows;
        }

        private void tryUnits(int j, int[] row, int[][] joined, int[] by, List<long[]> rows) {
            if (j < 0) {
                rows.add(Arrays.stream(row).asLongStream().toArray());
                return;
            }
            for (int value = 1; value >= -1; value -= 2) {
                row[j] = value;
                int sum = 0;
                for (int sort : joined[j]) {
                    sum += row[sort];
                }
                if (sum % by[j] == 0) {
                    tryUnits(j - 1, row, joined, by, rows);
                }
            }
        }
    }

    /** A token: kind w (word), n (number), s (sign), x (none), e (the end). */
    record Token(char kind, String text, int place) {
        boolean sign(String sign) {
            return kind == 's' && text.equals(sign);
        }

        boolean word(String word) {
            return kind == 'w' && text.equals(word);
        }

        boolean name() {
            return kind == 'w' && !Set.of("places", "move", "let", "sort").contains(text);
        }
    }

    static List<Token> tokens(byte[] text) {
        List<Token> result = new ArrayList<>();
        int i = 0;
        while (i < text.length) {
            int c = text[i] & 255;
            int to = i;
            if (c == 32 || c == 10) {
                i++;
                continue;
            }
            if (c >= 'a' && c <= 'z') {
                while (to < text.length && text[to] >= 'a' && text[to] <= 'z') {
                    to++;
                }
                result.add(new Token(to - i > 6 ? 'x' : 'w', ascii(text, i, to), i));
            } else if (c >= '0' && c <= '9') {
                while (to < text.length && text[to] >= '0' && text[to] <= '9') {
                    to++;
                }
                boolean letter = to < text.length && text[to] >= 'a' && text[to] <= 'z';
                result.add(new Token(to - i > 3 || letter ? 'x' : 'n', ascii(text, i, to), i));
            } else {
                to++;
                result.add(new Token("=+-*^();".indexOf(c) >= 0 ? 's' : 'x', ascii(text, i, to), i));
            }
            i = to;
        }
        result.add(new Token('e', "", text.length));
        return result;
    }

    private static String ascii(byte[] text, int from, int to) {
        return new String(text, from, to - from, java.nio.charset.StandardCharsets.ISO_8859_1);
    }

    /** Reads one text. */
    static final class Reading {
        final List<Token> tokens;
        int next = 0;
        int units;
        boolean tooLarge;
        World world;
        final List<String> names;
        final List<BigInteger[]> sums;

        Reading(byte[] text, World world, List<String> names, List<BigInteger[]> sums) {
            tokens = Oracle.tokens(text);
            this.world = world;
            this.names = names;
            this.sums = sums;
        }

        Token now() {
            return tokens.get(next);
        }

        Fault fault(int kind) {
            return new Fault(now().kind == 'x' ? 1 : kind, now().place);
        }

        int number(int least, int most) {
            if (now().kind != 'n') {
                throw fault(2);
            }
            int value = Integer.parseInt(now().text);
            if (value < least || value > most) {
                throw fault(4);
            }
            next++;
            return value;
        }

        void sign(String sign) {
            if (!now().sign(sign)) {
                throw fault(2);
            }
            next++;
        }

        void troupe() {
            if (!now().word("places")) {
                throw fault(2);
            }
            next++;
            world = new World(number(1, 6));
            sign(";");
            while (now().word("move")) {
                int place = now().place;
                if (world.moves.size() == 4) {
                    throw fault(5);
                }
                next++;
                int[] row = new int[world.places];
                for (int p = 0; p < row.length; p++) {
                    row[p] = number(0, row.length - 1);
                    for (int q = 0; q < p; q++) {
                        if (row[q] == row[p]) {
                            next--;
                            throw fault(4);
                        }
                    }
                }
                sign(";");
                if (!world.add(row)) {
                    throw new Fault(5, place);
                }
            }
            world.finish();
            while (now().word("let")) {
                int place = now().place;
                if (names.size() == 8) {
                    throw fault(5);
                }
                next++;
                if (!now().name()) {
                    throw fault(2);
                }
                String name = now().text;
                if (names.contains(name)) {
                    throw fault(3);
                }
                next++;
                sign("=");
                BigInteger[] sum = whole();
                sign(";");
                if (tooLarge) {
                    throw new Fault(6, place);
                }
                names.add(name);
                sums.add(sum);
            }
            if (now().kind != 'e') {
                throw fault(2);
            }
        }

        BigInteger[] alone() {
            BigInteger[] sum = whole();
            if (now().kind != 'e') {
                throw fault(2);
            }
            if (tooLarge) {
                throw new Fault(6, 0);
            }
            return sum;
        }

        private BigInteger[] whole() {
            units = 0;
            tooLarge = false;
            return sumOf(0);
        }

        private BigInteger[] seen(BigInteger[] sum) {
            if (!world.fits(sum)) {
                tooLarge = true;
                return world.nought();
            }
            return sum;
        }

        // E = T { (+ | -) T }
        private BigInteger[] sumOf(int around) {
            BigInteger[] sum = productOf(around);
            while (now().sign("+") || now().sign("-")) {
                boolean less = now().sign("-");
                next++;
                BigInteger[] other = productOf(around);
                BigInteger[] both = world.nought();
                for (int i = 0; i < both.length; i++) {
                    both[i] = less ? sum[i].subtract(other[i]) : sum[i].add(other[i]);
                }
                sum = seen(both);
            }
            return sum;
        }

        // T = F { * F }
        private BigInteger[] productOf(int around) {
            BigInteger[] sum = factor(around);
            while (now().sign("*")) {
                next++;
                sum = seen(world.times(sum, factor(around)));
            }
            return sum;
        }

        private void unit(int around) {
            units++;
            if (units > 30 || around > 6) {
                throw fault(5);
            }
        }

        private BigInteger[] factor(int around) {
            if (now().sign("-")) {
                unit(around);
                next++;
                BigInteger[] sum = factor(around + 1).clone();
                for (int i = 0; i < sum.length; i++) {
                    sum[i] = sum[i].negate();
                }
                return sum;
            }
            BigInteger[] base = lone(around);
            if (!now().sign("^")) {
                return base;
            }
            next++;
            if (now().kind == 'n' && Integer.parseInt(now().text) > 9) {
                throw fault(2);
            }
            int power = number(0, 9);
            BigInteger[] sum = world.single(world.sorts.size() - 1, 1);
            for (int i = 0; i < power; i++) {
                sum = seen(world.times(sum, base));
            }
            return sum;
        }

        private BigInteger[] lone(int around) {
            int last = world.sorts.size() - 1;
            if (now().kind == 'n') {
                unit(around);
                return seen(world.single(last, number(0, 999)));
            }
            if (now().sign("(")) {
                unit(around);
                next++;
                BigInteger[] sum = sumOf(around + 1);
                sign(")");
                return sum;
            }
            if (now().word("sort")) {
                unit(around);
                next++;
                return world.single(number(0, last), 1);
            }
            if (!now().name()) {
                throw fault(2);
            }
            int k = names.indexOf(now().text);
            if (k < 0) {
                throw fault(3);
            }
            unit(around);
            next++;
            return sums.get(k);
        }
    }

    World world = new World(1);
    List<String> names = new ArrayList<>();
    List<BigInteger[]> sums = new ArrayList<>();
    byte[] tape = new byte[0];
    BigInteger[] theSum;
    Deque<BigInteger[]> kept = new ArrayDeque<>();
    int faultKind = 0;
    int faultPlace = -1;

    Oracle() {
        world.finish();
        theSum = world.nought();
    }

    int feed(int... five) {
        if (tape.length + 20 > 700) {
            return -1;
        }
        byte[] longer = Arrays.copyOf(tape, tape.length + 20);
        java.nio.ByteBuffer buffer = java.nio.ByteBuffer.wrap(longer, tape.length, 20);
        for (int v : five) {
            buffer.putInt(v);
        }
        tape = longer;
        return tape.length;
    }

    int end(int n) {
        if (n < 0 || n > tape.length) {
            return -1;
        }
        tape = Arrays.copyOf(tape, n);
        return n;
    }

    int troupe() {
        faultKind = 0;
        faultPlace = -1;
        Reading reading = new Reading(tape, null, new ArrayList<>(), new ArrayList<>());
        tape = new byte[0];
        try {
            reading.troupe();
        } catch (Fault fault) {
            faultKind = fault.kind;
            faultPlace = fault.place;
            return -1;
        }
        world = reading.world;
        names = reading.names;
        sums = reading.sums;
        theSum = world.nought();
        kept.clear();
        return world.size();
    }

    int fault(int what) {
        return what == 0 ? faultKind : what == 1 ? faultPlace : -1;
    }

    int about(int what) {
        switch (what) {
            case 0: return world.places;
            case 1: return world.moves.size();
            case 2: return names.size();
            case 3: return world.size();
            case 4: return world.subgroups.size();
            case 5: return world.sorts.size();
            case 6: return alike() == world.size() * world.size() ? 1 : 0;
            case 7: return kept.size();
            case 8: return tape.length;
            default: return -1;
        }
    }

    private boolean member(int m) {
        return m >= 0 && m < world.size();
    }

    private boolean place(int p) {
        return p >= 0 && p < world.places;
    }

    private boolean isSort(int s) {
        return s >= 0 && s < world.sorts.size();
    }

    private boolean prime(int p) {
        return p == 2 || p == 3 || p == 5;
    }

    int moves(int m, int p) {
        return member(m) && place(p) ? world.members.get(m)[p] : -1;
    }

    int times(int a, int b) {
        return member(a) && member(b) ? world.table[a][b] : -1;
    }

    int order(int m) {
        return member(m) ? world.span(new TreeSet<>(List.of(m))).size() : -1;
    }

    private boolean known(int bits) {
        for (int x : world.setOf(bits)) {
            if (!member(x)) {
                return false;
            }
        }
        return true;
    }

    int makesOf(int bits) {
        return known(bits) ? World.bits(world.span(world.setOf(bits))) : -1;
    }

    int sortOf(int bits) {
        return known(bits) ? world.sortOf(world.span(world.setOf(bits))) : -1;
    }

    int sort(int sort, int what) {
        if (!isSort(sort)) {
            return -1;
        }
        Set<Integer> first = world.first(sort);
        switch (what) {
            case 0: return first.size();
            case 1: return world.sorts.get(sort).size();
            case 2: return World.bits(first);
            case 3: return world.norm(first).size();
            case 4:
                for (int x : first) {
                    if (world.span(Collections.singleton(x)).equals(first)) {
                        return 1;
                    }
                }
                return 0;
            case 5:
                for (int x : first) {
                    for (int y : first) {
                        if (world.table[x][y] != world.table[y][x]) {
                            return 0;
                        }
                    }
                }
                return 1;
            default: return -1;
        }
    }

    int within(int i, int j) {
        if (!isSort(i) || !isSort(j)) {
            return -1;
        }
        int count = 0;
        for (Set<Integer> h : world.sorts.get(i)) {
            if (world.first(j).containsAll(h)) {
                count++;
            }
        }
        return count;
    }

    int mark(int i, int j) {
        return isSort(i) && isSort(j) ? world.marks[i][j] : -1;
    }

    int product(int i, int j, int k) {
        return isSort(i) && isSort(j) && isSort(k) ? world.product(i, j)[k] : -1;
    }

    int residue(int sort, int p) {
        return isSort(sort) && prime(p) ? world.residue(sort, p) : -1;
    }

    int block(int sort, int p) {
        return isSort(sort) && prime(p) ? world.block(sort, p) : -1;
    }

    int keeper(int p) {
        if (!place(p)) {
            return -1;
        }
        int bits = 0;
        for (int m = 0; m < world.size(); m++) {
            bits |= moves(m, p) == p ? 1 << m : 0;
        }
        return bits;
    }

    int orbit(int p) {
        if (!place(p)) {
            return -1;
        }
        int bits = 0;
        for (int m = 0; m < world.size(); m++) {
            bits |= 1 << moves(m, p);
        }
        return bits;
    }

    int coset(int sort, int m) {
        return isSort(sort) && member(m) ? Collections.min(world.coset(world.first(sort), m)) : -1;
    }

    int takes(int sort, int m, int g) {
        if (!isSort(sort) || !member(m) || !member(g)) {
            return -1;
        }
        return Collections.min(world.cosetTaken(world.coset(world.first(sort), m), g));
    }

    int moebius(int sort) {
        return isSort(sort) ? world.moebius(world.first(sort)) : NO_FRACTION;
    }

    int mixed(int sort) {
        if (!isSort(sort)) {
            return -1;
        }
        Set<Integer> made = new TreeSet<>();
        for (int x : world.first(sort)) {
            for (int y : world.first(sort)) {
                int step = world.table[world.undoer[x]][world.undoer[y]];
                made.add(world.table[world.table[step][x]][y]);
            }
        }
        return world.sortOf(world.span(made));
    }

    int centre(int sort) {
        if (!isSort(sort)) {
            return -1;
        }
        int bits = 0;
        for (int x : world.first(sort)) {
            boolean all = true;
            for (int y : world.first(sort)) {
                all &= world.table[x][y] == world.table[y][x];
            }
            bits |= all ? 1 << x : 0;
        }
        return bits;
    }

    int pairs(int i, int j) {
        return isSort(i) && isSort(j) ? Arrays.stream(world.product(i, j)).sum() : -1;
    }

    int alike() {
        int count = 0;
        for (int x = 0; x < world.size(); x++) {
            for (int y = 0; y < world.size(); y++) {
                count += world.table[x][y] == world.table[y][x] ? 1 : 0;
            }
        }
        return count;
    }

    int meet(int i, int j) {
        if (!isSort(i) || !isSort(j)) {
            return -1;
        }
        Set<Integer> both = new TreeSet<>(world.first(i));
        both.retainAll(world.first(j));
        return world.sortOf(both);
    }

    int join(int i, int j) {
        if (!isSort(i) || !isSort(j)) {
            return -1;
        }
        Set<Integer> both = new TreeSet<>(world.first(i));
        both.addAll(world.first(j));
        return world.sortOf(world.span(both));
    }

    int orders(int n) {
        if (n < 1 || n > 24) {
            return -1;
        }
        int count = 0;
        for (int m = 0; m < world.size(); m++) {
            count += order(m) == n ? 1 : 0;
        }
        return count;
    }

    int likes(int m) {
        if (!member(m)) {
            return -1;
        }
        Set<Integer> all = new TreeSet<>();
        for (int g = 0; g < world.size(); g++) {
            all.addAll(world.turned(Collections.singleton(m), g));
        }
        return all.size();
    }

    int peak(int j, int i, int what) {
        if (!isSort(i) || !isSort(j) || what < 0 || what > 1) {
            return NO_FRACTION;
        }
        return world.peak(1 << j)[i][what].intValueExact();
    }

    int local(int p, int j, int i, int what) {
        if (!isSort(i) || !isSort(j) || what < 0 || what > 1 || !prime(p)) {
            return NO_FRACTION;
        }
        return world.peak(world.block(j, p))[i][what].intValueExact();
    }

    int units() {
        return world.units().length;
    }

    int unit(int k, int i) {
        if (k < 0 || k >= units() || !isSort(i)) {
            return NO_FRACTION;
        }
        BigInteger[] row = Arrays.stream(world.units()[k]).mapToObj(BigInteger::valueOf).toArray(BigInteger[]::new);
        BigInteger[] answer = world.solve(row)[i];
        if (!answer[1].equals(BigInteger.ONE)) {
            throw new IllegalStateException("a unit that is no sum");
        }
        return answer[0].intValueExact();
    }

    long named(int k, int sort) {
        return k >= 0 && k < sums.size() && isSort(sort) ? sums.get(k)[sort].longValueExact() : NO_NUMBER;
    }

    long has(int sort) {
        return isSort(sort) ? theSum[sort].longValueExact() : NO_NUMBER;
    }

    long marked(int sort) {
        return isSort(sort) ? world.marksOf(theSum)[sort].longValueExact() : NO_NUMBER;
    }

    long character(int m) {
        return member(m) ? marked(world.sortOf(world.span(Collections.singleton(m)))) : NO_NUMBER;
    }

    int parts() {
        int count = 0;
        for (BigInteger v : theSum) {
            count += v.signum() != 0 ? 1 : 0;
        }
        return count;
    }

    long congruence(int sort) {
        if (!isSort(sort)) {
            return NO_NUMBER;
        }
        BigInteger[] told = world.congruence(sort, world.marksOf(theSum));
        BigInteger[] by = told[0].divideAndRemainder(told[1]);
        if (by[1].signum() != 0) {
            throw new IllegalStateException("a sum without congruence");
        }
        return by[0].longValueExact();
    }

    int is(int what) {
        BigInteger[] marks = world.marksOf(theSum);
        switch (what) {
            case 0: return Arrays.stream(theSum).allMatch(v -> v.signum() >= 0) ? 1 : 0;
            case 1: return Arrays.equals(world.times(theSum, theSum), theSum) ? 1 : 0;
            case 2: return Arrays.stream(marks).allMatch(v -> v.abs().equals(BigInteger.ONE)) ? 1 : 0;
            case 3: return Arrays.asList(marks).contains(BigInteger.ZERO) ? 1 : 0;
            default: return -1;
        }
    }

    private void become(BigInteger[] sum) {
        kept.push(theSum);
        if (kept.size() > 12) {
            kept.removeLast();
        }
        theSum = sum.clone();
    }

    int makes() {
        faultKind = 0;
        faultPlace = -1;
        Reading reading = new Reading(tape, world, names, sums);
        tape = new byte[0];
        try {
            become(reading.alone());
        } catch (Fault fault) {
            faultKind = fault.kind;
            faultPlace = fault.place;
            return -1;
        }
        return parts();
    }

    int take(int what, int n) {
        if (what < 0 || what > 2 || what != 0 && (n < 0 || n > 6)) {
            return -1;
        }
        List<List<Integer>> points = new ArrayList<>();
        if (what == 0) {
            for (int p = 0; p < world.places; p++) {
                points.add(List.of(p));
            }
        } else if (what == 1) {
            for (int bits = 0; bits < 1 << world.places; bits++) {
                if (Integer.bitCount(bits) == n) {
                    points.add(new ArrayList<>(world.setOf(bits)));
                }
            }
        } else {
            paint(n, new ArrayList<>(), points);
        }
        Map<List<Integer>, Integer> number = new HashMap<>();
        for (List<Integer> point : points) {
            number.put(point, number.size());
        }
        int[][] moved = new int[world.size()][points.size()];
        for (int g = 0; g < world.size(); g++) {
            for (int i = 0; i < points.size(); i++) {
                moved[g][i] = number.get(what == 2 ? painted(points.get(i), g) : movedSet(points.get(i), g));
            }
        }
        become(Arrays.stream(world.takeApart(points.size(), moved)).mapToObj(BigInteger::valueOf)
                .toArray(BigInteger[]::new));
        return points.size();
    }

    private void paint(int colours, List<Integer> sofar, List<List<Integer>> points) {
        if (sofar.size() == world.places) {
            points.add(new ArrayList<>(sofar));
            return;
        }
        for (int c = 0; c < colours; c++) {
            sofar.add(c);
            paint(colours, sofar, points);
            sofar.remove(sofar.size() - 1);
        }
    }

    private List<Integer> movedSet(List<Integer> set, int g) {
        Set<Integer> result = new TreeSet<>();
        for (int p : set) {
            result.add(world.members.get(g)[p]);
        }
        return new ArrayList<>(result);
    }

    private List<Integer> painted(List<Integer> painting, int g) {
        Integer[] result = new Integer[painting.size()];
        for (int p = 0; p < result.length; p++) {
            result[world.members.get(g)[p]] = painting.get(p);
        }
        return Arrays.asList(result);
    }

    int marks() {
        String text = new String(tape, java.nio.charset.StandardCharsets.ISO_8859_1);
        tape = new byte[0];
        if (!text.matches("[ \n]*-?[0-9]{1,6}([ \n]+-?[0-9]{1,6})*[ \n]*")) {
            return -2;
        }
        String[] told = text.replaceAll("^[ \n]+", "").split("[ \n]+");
        if (told.length != world.sorts.size()) {
            return -2;
        }
        BigInteger[] row = Arrays.stream(told).map(BigInteger::new).toArray(BigInteger[]::new);
        for (int j = 0; j < row.length; j++) {
            BigInteger[] sum = world.congruence(j, row);
            if (sum[0].mod(sum[1]).signum() != 0) {
                return j + 1;
            }
        }
        BigInteger[] sum = new BigInteger[row.length];
        BigInteger[][] solved = world.solve(row);
        for (int i = 0; i < row.length; i++) {
            if (!solved[i][1].equals(BigInteger.ONE)) {
                throw new IllegalStateException("a row with congruence that is no sum");
            }
            sum[i] = solved[i][0];
        }
        become(sum);
        return 0;
    }

    int uses(int k) {
        if (k < 0 || k >= sums.size()) {
            return -1;
        }
        become(sums.get(k));
        return parts();
    }

    long grows(int n, int m, int sort) {
        if (n < -9 || n > 9 || m < -999 || m > 999 || !isSort(sort)) {
            return NO_NUMBER;
        }
        BigInteger[] sum = theSum.clone();
        for (int i = 0; i < sum.length; i++) {
            sum[i] = sum[i].multiply(BigInteger.valueOf(n)).add(BigInteger.valueOf(i == sort ? m : 0));
        }
        if (!world.fits(sum)) {
            return NO_NUMBER;
        }
        become(sum);
        return sum[sort].longValueExact();
    }

    int undo() {
        if (kept.isEmpty()) {
            return -1;
        }
        theSum = kept.pop();
        return kept.size();
    }
}
