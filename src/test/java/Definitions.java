import java.util.ArrayList;
import java.util.List;
import java.util.TreeSet;

/**
 * Each definition of the terms 1 and 2, quoted, and held against the answers of some troupes: what a
 * call answers is reckoned from the rows of the members alone, step by step as the sentence says.
 */
final class Definitions {
    private static final String[] TEXTS = {
        "places 1;",
        "places 2;move 1 0;",
        "places 3;move 1 2 0;",
        "places 3;move 1 2 0;move 1 0 2;",
        "places 4;move 1 2 3 0;",
        "places 4;move 1 0 2 3;move 0 1 3 2;",
        "places 4;move 1 2 3 0;move 2 1 0 3;",
        "places 5;move 1 2 0 4 3;",
        "places 5;move 1 2 3 4 0;move 0 4 3 2 1;",
        "places 6;move 1 0 2 3 4 5;move 0 1 3 2 4 5;move 0 1 2 3 5 4;",
        "places 4;move 1 2 0 3;move 1 0 3 2;",
        "places 5;move 1 2 3 4 0;move 0 2 4 1 3;",
        "places 4;move 1 2 3 0;move 1 0 2 3;",
        "places 6;move 1 2 3 0 4 5;move 2 1 0 3 4 5;move 0 1 2 3 5 4;",
    };
    private static final int MOST_CALLS = 400;

    private final Document document;
    private final Check check;
    private String title = "";
    private String text = "";
    private TroupeSums asked;
    private int calls;

    // What is known of the troupe that is looked at: by its members' rows alone, but for the bits of
    // the sorts' FIRST ones, which the sentence of SORTS is held against.
    private int size;
    private int[][] rows;
    private int[][] times;
    private int[] undoers;
    private List<Integer> subgroups;
    private List<Integer> firsts;
    private int[][] marks;

    private Definitions(Document document, Check check) {
        this.document = document;
        this.check = check;
    }

    /** Quotes and looks at each definition. */
    static void look(Document document, Check check) {
        Definitions definitions = new Definitions(document, check);
        definitions.sums();
        for (String text : TEXTS) {
            definitions.renew(text);
            definitions.group();
            definitions.subgroups();
            definitions.sorts();
            definitions.marksOfSorts();
            definitions.marksOfSums();
            definitions.congruences();
            definitions.rowsOfMarks();
            definitions.peaks();
            definitions.residues();
            definitions.units();
        }
        definitions.aim();
    }

    private void says(String part, String words) {
        title = part + " \"" + words + "\"";
        check.holds(title + " stands in the document", document.quote(part, words));
    }

    private void due(String call, long got, long due) {
        check.same(title + ", " + text + " " + call, got, due);
    }

    private void renew(String of) {
        text = of;
        asked = Texts.told(of);
        calls = 100;
    }

    /** The object to ask, a new one of the same troupe if this one has been asked often. */
    private TroupeSums ask() {
        calls++;
        if (calls > MOST_CALLS) {
            renew(text);
        }
        return asked;
    }

    /** Of a new object THE SUM is that of an E. */
    private void makes(String sum) {
        renew(text);
        Texts.put(asked, sum);
        asked.makes();
        due("fault(0) of " + sum, asked.fault(0), 0);
    }

    // ---- 1. an E

    private void sums() {
        says("1", "E = T { (+ | -) T }. T = F { * F }. F = - F | N | sort N | NAME | ( E ) |");
        String[] sums = {"7", "sort 0", "a", "(7)", "-7", "7^2", "1+2+3", "1-2-3", "1-2+3", "2*3*4", "1+2*3", "1*2+3", "2*-3", "2--3", "2+-3", "-2*-3", "-2-3",
            "-(2-3)", "(1-2)-(3-4)", "(1+2)*(3+4)", "-2^2*3", "2*3^2-1", "-(1+1)^2", "a*a-a^2", "1-2*3-4*5-6", "--2", "-a", "sort 0*a-sort 0^3"};
        long[] values = {7, 1, 5, 7, -7, 49, 6, -4, 2, 24, 7, 5, -6, 5, -1, 6, -5, 1, 0, 21, -12, 17, -4, 0, -31, 2, -5, 4};
        for (int k = 0; k < sums.length; k++) {
            text = "places 1;let a=5;";
            makes(sums[k]);
            due("has(0) behind " + sums[k], asked.has(0), values[k]);
        }
        says("1", "places: so many PLACES (1 .. 6; numbers 0 ..). move: a MOVE (4 at most): where each PLACE goes, PLACE by PLACE, "
                + "as many numbers as PLACES, unlike.");
        renew("places 6;move 3 1 0 2 5 4;");
        int[] goes = {3, 1, 0, 2, 5, 4};
        for (int m = 0, last = asked.about(3) - 1; m <= last; m++) {
            boolean same = true;
            for (int place = 0; place < 6; place++) {
                same &= asked.moves(m, place) == goes[place];
            }
            // the row is behind all rows that begin with 0, 2 or less
            due("MEMBER " + m + " is the MOVE", same ? 1 : 0, m == last ? 1 : 0);
        }
    }

    // ---- 2. members and subgroups

    private void group() {
        says("2", "The GROUP: all that comes of MOVES done one behind the other (each MEMBER a row of where PLACES go; the one that moves nothing, too). "
                + "MEMBERS are numbered from 0 on as rows in a dictionary. a TIMES b: first a is done, then b.");
        size = asked.about(3);
        int places = asked.about(0);
        rows = new int[size][places];
        TreeSet<String> told = new TreeSet<>();
        List<String> inTurn = new ArrayList<>();
        for (int m = 0; m < size; m++) {
            for (int place = 0; place < places; place++) {
                rows[m][place] = ask().moves(m, place);
            }
            inTurn.add(word(rows[m]));
            told.add(word(rows[m]));
        }
        due("rows in a dictionary", inTurn.equals(new ArrayList<>(told)) ? 1 : 0, 1);
        due("all that comes of MOVES", told.equals(comesOf(places)) ? 1 : 0, 1);
        times = new int[size][size];
        undoers = new int[size];
        for (int a = 0; a < size; a++) {
            for (int b = 0; b < size; b++) {
                int[] row = new int[places];
                for (int place = 0; place < places; place++) {
                    row[place] = rows[b][rows[a][place]];
                }
                times[a][b] = inTurn.indexOf(word(row));
                undoers[a] = times[a][b] == 0 ? b : undoers[a];
                due(a + " TIMES " + b, ask().times(a, b), times[a][b]);
            }
        }
    }

    private static String word(int[] row) {
        StringBuilder word = new StringBuilder();
        for (int place : row) {
            word.append(place);
        }
        return word.toString();
    }

    /** The rows that come of the text's moves. */
    private TreeSet<String> comesOf(int places) {
        List<String> moves = new ArrayList<>();
        for (String line : text.split(";")) {
            if (line.startsWith("move")) {
                moves.add(line.substring(4).replace(" ", ""));
            }
        }
        TreeSet<String> met = new TreeSet<>();
        List<String> open = new ArrayList<>(List.of("012345".substring(0, places)));
        while (!open.isEmpty()) {
            String row = open.remove(0);
            if (met.add(row)) {
                for (String move : moves) {
                    StringBuilder next = new StringBuilder();
                    for (int place = 0; place < places; place++) {
                        next.append(move.charAt(row.charAt(place) - '0'));
                    }
                    open.add(next.toString());
                }
            }
        }
        return met;
    }

    private static boolean isIn(int bits, int member) {
        return (bits >> member & 1) != 0;
    }

    private int closed(int bits) {
        int closed = bits | 1;
        for (int before = 0; before != closed;) {
            before = closed;
            for (int a = 0; a < size; a++) {
                for (int b = 0; b < size; b++) {
                    closed |= isIn(closed, a) && isIn(closed, b) ? 1 << times[a][b] : 0;
                }
            }
        }
        return closed;
    }

    private void subgroups() {
        says("2", "A SUBGROUP: MEMBERS with which whatever comes of two of them is among them, told as bits by their numbers (with 0 always).");
        TreeSet<Integer> all = new TreeSet<>();
        // no group here needs more than three members to be made
        for (int a = 0; a < size; a++) {
            for (int b = a; b < size; b++) {
                int two = closed(1 << a | 1 << b);
                for (int c = 0; c < size; c++) {
                    all.add(isIn(two, c) ? two : closed(two | 1 << c));
                }
                due("makesOf", ask().makesOf(1 << a | 1 << b), two);
            }
        }
        subgroups = new ArrayList<>(all);
        due("about(4)", ask().about(4), subgroups.size());
        for (int bits : subgroups) {
            due("makesOf(" + bits + ")", ask().makesOf(bits), bits);
            due("makesOf without 0 of " + bits, ask().makesOf(bits & ~1), bits);
        }
    }

    private int turned(int bits, int g) {
        int turned = 0;
        for (int x = 0; x < size; x++) {
            turned |= isIn(bits, x) ? 1 << times[times[undoers[g]][x]][g] : 0;
        }
        return turned;
    }

    private void sorts() {
        says("2", "SUBGROUPS are of one SORT, if one is the other one turned by some MEMBER g: all (the one that undoes g) TIMES x TIMES g of its MEMBERS x. "
                + "The FIRST of a SORT is that with the least bits. SORTS are numbered from 0 on by how many MEMBERS their SUBGROUPS have, "
                + "the fewest first, of like ones by the bits of their FIRST ones.");
        firsts = new ArrayList<>();
        for (int members = 1; members <= size; members++) {
            for (int bits : subgroups) {
                if (Integer.bitCount(bits) == members && leastTurned(bits) == bits) {
                    firsts.add(bits);
                }
            }
        }
        due("about(5)", ask().about(5), firsts.size());
        for (int bits : subgroups) {
            due("sortOf(" + bits + ")", ask().sortOf(bits), sortOf(bits));
        }
        for (int i = 0; i < firsts.size(); i++) {
            int many = 0;
            for (int bits : subgroups) {
                many += sortOf(bits) == i ? 1 : 0;
            }
            due("FIRST of " + i, ask().sort(i, 2), firsts.get(i));
            due("SUBGROUPS of " + i, ask().sort(i, 1), many);
        }
    }

    private int leastTurned(int bits) {
        int least = bits;
        for (int g = 0; g < size; g++) {
            least = Math.min(least, turned(bits, g));
        }
        return least;
    }

    private int sortOf(int bits) {
        return firsts.indexOf(leastTurned(bits));
    }

    // ---- 2. marks

    /** The coset of x: all h TIMES x of the members h. */
    private int coset(int bits, int x) {
        int coset = 0;
        for (int h = 0; h < size; h++) {
            coset |= isIn(bits, h) ? 1 << times[h][x] : 0;
        }
        return coset;
    }

    private int taken(int coset, int g) {
        int taken = 0;
        for (int x = 0; x < size; x++) {
            taken |= isIn(coset, x) ? 1 << times[x][g] : 0;
        }
        return taken;
    }

    private TreeSet<Integer> cosetsIn(int bits, int whole) {
        TreeSet<Integer> cosets = new TreeSet<>();
        for (int x = 0; x < size; x++) {
            if (isIn(whole, x)) {
                cosets.add(coset(bits, x));
            }
        }
        return cosets;
    }

    private int everyone() {
        return (1 << size) - 1;
    }

    private void marksOfSorts() {
        says("2", "SET of a SORT: COSETS of its FIRST H: for a MEMBER x all h TIMES x of H's MEMBERS h; a MEMBER g takes that of x to that of x TIMES g. "
                + "MARK of SORT i at SORT j: how many COSETS of the SET of i all MEMBERS of the FIRST of j take to themselves.");
        int count = firsts.size();
        marks = new int[count][count];
        for (int i = 0; i < count; i++) {
            for (int j = 0; j < count; j++) {
                for (int coset : cosetsIn(firsts.get(i), everyone())) {
                    marks[i][j] += isKept(coset, firsts.get(j)) ? 1 : 0;
                }
                due("mark(" + i + ", " + j + ")", ask().mark(i, j), marks[i][j]);
            }
            for (int x = 0; x < size; x++) {
                int coset = coset(firsts.get(i), x);
                due("coset(" + i + ", " + x + ")", ask().coset(i, x), Integer.numberOfTrailingZeros(coset));
                int g = (x * 5 + i) % size;
                due("takes(" + i + ", " + x + ", " + g + ")", ask().takes(i, x, g), Integer.numberOfTrailingZeros(taken(coset, g)));
            }
        }
    }

    private boolean isKept(int coset, int bits) {
        for (int g = 0; g < size; g++) {
            if (isIn(bits, g) && taken(coset, g) != coset) {
                return false;
            }
        }
        return true;
    }

    private long[] numbers() {
        long[] numbers = new long[firsts.size()];
        for (int i = 0; i < numbers.length; i++) {
            numbers[i] = asked.has(i);
        }
        return numbers;
    }

    private long[] marksOf(long[] numbers) {
        long[] row = new long[numbers.length];
        for (int j = 0; j < row.length; j++) {
            for (int i = 0; i < row.length; i++) {
                row[j] += numbers[i] * marks[i][j];
            }
        }
        return row;
    }

    /** A sum of some sorts, others by the seed. */
    private String any(int seed) {
        StringBuilder sum = new StringBuilder("(" + seed);
        for (int k = 0; k < 4; k++) {
            sum.append(k % 2 == seed % 2 ? "-" : "+").append(seed + k).append("*sort ").append((seed * 7 + k * 5) % firsts.size());
        }
        return sum.append(")").toString();
    }

    private void marksOfSums() {
        says("2", "A SUM: a whole number for each SORT. Its MARK at a SORT: of all SORTS the number times the SORT's MARK there, together. "
                + "N: N of the last SORT, 0 of others. sort N: 1 of that, 0 of others. + and -: number by number. "
                + "*: the SUM whose MARKS are the products of both's MARKS (there is just one). ^: so many of these multiplied (none: 1 of the last SORT).");
        int last = firsts.size() - 1;
        for (int n = 0; n <= last; n++) {
            makes("sort " + n);
            for (int i = 0; i <= last; i++) {
                due("has(" + i + ") of sort " + n, asked.has(i), i == n ? 1 : 0);
            }
            makes("" + (n + 1));
            for (int i = 0; i <= last; i++) {
                due("has(" + i + ") of " + (n + 1), asked.has(i), i == last ? n + 1 : 0);
            }
        }
        for (int seed = 1; seed <= 6; seed++) {
            makes(any(seed));
            long[] a = numbers();
            makes(any(seed + 1));
            long[] b = numbers();
            long[] marksOfA = marksOf(a);
            long[] marksOfB = marksOf(b);
            makes(any(seed) + "+" + any(seed + 1));
            long[] both = numbers();
            makes(any(seed) + "-" + any(seed + 1));
            long[] less = numbers();
            for (int i = 0; i <= last; i++) {
                due("+ at " + i, both[i], a[i] + b[i]);
                due("- at " + i, less[i], a[i] - b[i]);
            }
            makes(any(seed) + "*" + any(seed + 1));
            long[] marksOfProduct = marksOf(numbers());
            for (int j = 0; j <= last; j++) {
                due("the MARK of * at " + j, marksOfProduct[j], marksOfA[j] * marksOfB[j]);
                due("marked(" + j + ") of *", asked.marked(j), marksOfA[j] * marksOfB[j]);
            }
            for (int n = 0; n < 4; n++) {
                makes(any(seed) + "^" + n);
                for (int j = 0; j <= last; j++) {
                    due("^" + n + " at " + j, asked.marked(j), power(marksOfA[j], n));
                }
            }
        }
    }

    private static long power(long base, int n) {
        return n == 0 ? 1 : base * power(base, n - 1);
    }

    // ---- 2. congruence

    private int norm(int bits) {
        int norm = 0;
        for (int g = 0; g < size; g++) {
            norm |= turned(bits, g) == bits ? 1 << g : 0;
        }
        return norm;
    }

    /** What CONGRUENCE makes of a row at a sort: the sum, and how many cosets there are. */
    private long[] congruence(int sort, long[] row) {
        int first = firsts.get(sort);
        long sum = 0;
        TreeSet<Integer> cosets = cosetsIn(first, norm(first));
        for (int coset : cosets) {
            sum += row[sortOf(closed(first | coset))];
        }
        return new long[] {sum, cosets.size()};
    }

    private void congruences() {
        says("2", "CONGRUENCE of a row of whole numbers r (one for each SORT) at SORT j: NORM of its FIRST H: all MEMBERS g that turn H to H; "
                + "of all COSETS of H in NORM together: r at the SORT of the SUBGROUP that H and the MEMBERS of the COSET make. "
                + "It must be a multiple of how many these COSETS are.");
        for (int j = 0; j < firsts.size(); j++) {
            due("sort(" + j + ", 3)", ask().sort(j, 3), Integer.bitCount(norm(firsts.get(j))));
        }
        for (int seed = 1; seed <= 3; seed++) {
            makes(any(seed));
            long[] row = marksOf(numbers());
            for (int j = 0; j < row.length; j++) {
                long[] told = congruence(j, row);
                due("rest of the congruence at " + j, told[0] % told[1], 0);
                due("congruence(" + j + ")", asked.congruence(j), told[0] / told[1]);
            }
        }
    }

    /** The numbers of a row of marks, or null if they are no whole ones. */
    private long[] numbersOf(long[] row) {
        long[] numbers = new long[row.length];
        for (int j = row.length - 1; j >= 0; j--) {
            long rest = row[j];
            for (int i = j + 1; i < row.length; i++) {
                rest -= numbers[i] * marks[i][j];
            }
            if (rest % marks[j][j] != 0) {
                return null;
            }
            numbers[j] = rest / marks[j][j];
        }
        return numbers;
    }

    private void rowsOfMarks() {
        says("2", "(A row is that of the MARKS of a SUM just if it is so at each SORT.)");
        int count = firsts.size();
        for (int seed = 0; seed < 120; seed++) {
            long[] row = new long[count];
            StringBuilder tape = new StringBuilder();
            for (int j = 0; j < count; j++) {
                // one in three is a row of marks with one of them changed
                row[j] = seed % 3 == 0 ? marks[seed % count][j] + (j == seed / 3 % count ? seed / 3 % 25 : 0) : (seed * (j + 3) * 11 + seed / 7 * j) % 9 - 4;
                tape.append(row[j]).append(j + 1 < count ? " " : "");
            }
            long due = 0;
            for (int j = count - 1; j >= 0; j--) {
                long[] told = congruence(j, row);
                due = told[0] % told[1] != 0 ? j + 1 : due;
            }
            long[] numbers = numbersOf(row);
            due("a row with CONGRUENCE is one of a SUM: " + tape, numbers != null ? 0 : 1, due == 0 ? 0 : 1);
            renew(text);
            Texts.put(asked, tape.toString());
            due("marks of " + tape, asked.marks(), due);
            for (int i = 0; numbers != null && i < count; i++) {
                due("has(" + i + ") behind marks of " + tape, asked.has(i), numbers[i]);
            }
        }
    }

    // ---- 2. peaks, residues, units

    private void peaks() {
        says("2", "PEAK of a SORT j: the row of fractions, one for each SORT, which, taken as numbers of a SUM, has the MARK 1 at j, 0 at others.");
        int count = firsts.size();
        for (int j = 0; j < count; j++) {
            long[] scaled = new long[count];
            for (int i = 0; i < count; i++) {
                int above = ask().peak(j, i, 0);
                int below = ask().peak(j, i, 1);
                due("peak(" + j + ", " + i + ", 1) is above 0", below > 0 ? 1 : 0, 1);
                due("peak(" + j + ", " + i + ") is in lowest terms", greatestDivisor(Math.abs(above), below), 1);
                due("peak(" + j + ", " + i + ", 1) goes into the MEMBERS", below > 0 ? size % below : 1, 0);
                scaled[i] = below > 0 ? (long) above * (size / below) : 0;
            }
            long[] row = marksOf(scaled);
            for (int k = 0; k < count; k++) {
                due("the MARK of PEAK of " + j + " at " + k + ", times MEMBERS", row[k], k == j ? size : 0);
            }
        }
    }

    private static int greatestDivisor(int a, int b) {
        return b == 0 ? a : greatestDivisor(b, a % b);
    }

    private int residue(int sort, int p) {
        int whole = firsts.get(sort);
        int least = whole;
        for (int bits : subgroups) {
            boolean inTurn = (bits & ~whole) == 0 && (norm(bits) & whole) == whole;
            int more = inTurn ? Integer.bitCount(whole) / Integer.bitCount(bits) : 0;
            while (more > 1 && more % p == 0) {
                more /= p;
            }
            if (more == 1 && Integer.bitCount(bits) < Integer.bitCount(least)) {
                least = bits;
            }
        }
        return sortOf(least);
    }

    private void residues() {
        says("2", "RESIDUE of a SORT i by a prime p: the SORT of the least SUBGROUP of its FIRST that is turned to itself by all of that "
                + "and has as many MEMBERS as that has by a power of p. BLOCK of i by p: all SORTS with the same RESIDUE by p; "
                + "the sum of their PEAKS (fraction by fraction): LOCAL PEAK.");
        int count = firsts.size();
        for (int p : new int[] {2, 3, 5}) {
            int[] residues = new int[count];
            for (int i = 0; i < count; i++) {
                residues[i] = residue(i, p);
                due("residue(" + i + ", " + p + ")", ask().residue(i, p), residues[i]);
            }
            for (int j = 0; j < count; j++) {
                int block = 0;
                for (int i = 0; i < count; i++) {
                    block |= residues[i] == residues[j] ? 1 << i : 0;
                }
                due("block(" + j + ", " + p + ")", ask().block(j, p), block);
                localPeak(p, j, block);
            }
        }
    }

    private void localPeak(int p, int j, int block) {
        int count = firsts.size();
        long[] scaled = new long[count];
        for (int i = 0; i < count; i++) {
            int below = ask().local(p, j, i, 1);
            int above = ask().local(p, j, i, 0);
            due("local(" + p + ", " + j + ", " + i + ") is in lowest terms", greatestDivisor(Math.abs(above), below), 1);
            scaled[i] = below > 0 ? (long) above * (size / below) : 0;
        }
        long[] row = marksOf(scaled);
        for (int k = 0; k < count; k++) {
            due("the MARK of LOCAL PEAK by " + p + " of " + j + " at " + k + ", times MEMBERS", row[k], isIn(block, k) ? size : 0);
        }
    }

    private void units() {
        says("2", "A UNIT: a SUM of which each MARK is 1 or -1. UNITS are numbered from 0 on by their MARKS, SORT by SORT, 1 ahead of -1.");
        int count = firsts.size();
        if (count > 16) {
            return;
        }
        int met = 0;
        for (int signs = 0; signs < 1 << count; signs++) {
            long[] row = new long[count];
            for (int j = 0; j < count; j++) {
                row[j] = isIn(signs, count - 1 - j) ? -1 : 1;
            }
            long[] numbers = numbersOf(row);
            for (int i = 0; numbers != null && i < count; i++) {
                due("unit(" + met + ", " + i + ")", ask().unit(met, i), numbers[i]);
            }
            met += numbers != null ? 1 : 0;
        }
        due("units()", ask().units(), met);
        due("unit(" + met + ", 0)", ask().unit(met, 0), -1000000);
    }

    /** What the document says of itself: nothing that an answer could break. */
    private void aim() {
        says("What it is", "Sums of sets on which a group acts: a group of moves of places told as a text; its members, subgroups, their sorts; marks of each sort; "
                + "sums with names, added, multiplied, raised; what rows of marks are those of a sum, by which congruence one is not; products taken apart; "
                + "the least sum of a row that is 1 at one sort and 0 at others, by primes, too; units; sums of places, of their sets, of paintings; "
                + "sums kept, changed, undone.");
        says("What it is", "what later calls answer is free.");
    }
}
