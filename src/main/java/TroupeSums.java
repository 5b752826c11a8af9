/**
 * Sums of sets on which a group of moves of places acts: the group is told as a text, its members,
 * subgroups and their sorts can be asked for, and one sum is kept, changed and undone.
 *
 * <p>All rows are made with the object and used again by every call: a call makes nothing new.
 */
public final class TroupeSums {
    public static final int NONE = -1;

    private static final int NO_FRACTION = -1000000;
    private static final long NO_NUMBER = 1L << 63;
    private static final long LARGEST = 1000000000000L;

    private static final int MOST_BYTES = 700;
    private static final int MOST_PLACES = 6;
    private static final int MOST_COLOURS = 6;
    private static final int MOST_MOVES = 4;
    private static final int MOST_NAMES = 8;
    private static final int MOST_MEMBERS = 24;
    private static final int MOST_KEPT = 12;

    // Of all groups with at most 24 members that move six places, those of 16 members have the most
    // subgroups, 35, of the most sorts, 27 (the test GroupsTest goes through all of them).
    private static final int MOST_SUBGROUPS = 35;
    private static final int MOST_SORTS = 27;

    private static final int MOST_UNITS = 30;
    private static final int MOST_AROUND = 6;
    private static final int MOST_POWER = 9;

    // Seven brackets may stand open; ahead of each, and within the last, a sum and a product wait.
    private static final int MOST_SIGNS = 24;
    private static final int MOST_VALUES = 18;

    private static final int BITS_OF_PLACE = 3;
    private static final int LETTERS = 27;

    private final Tokens tape;
    private final Reader reader;
    private Troupe now;
    // The text is read into this one, which takes the other's place when all of it is right.
    private Troupe spare;

    public TroupeSums() {
        tape = new Tokens();
        reader = new Reader(tape);
        now = new Troupe();
        spare = new Troupe();
        now.begin(1);
        now.settle();
    }

    public int feed(int a, int b, int c, int d, int e) {
        if (tape.length + 20 > MOST_BYTES) {
            return NONE;
        }
        tape.append(a);
        tape.append(b);
        tape.append(c);
        tape.append(d);
        tape.append(e);
        return tape.length;
    }

    public int end(int n) {
        if (n < 0 || n > tape.length) {
            return NONE;
        }
        tape.length = n;
        return n;
    }

    public int troupe() {
        Troupe told = spare;
        reader.begin();
        boolean right = reader.readPlaces(told) && reader.readMoves(told);
        if (right) {
            told.settle();
            right = reader.readLets(told);
        }
        tape.length = 0;
        if (!right) {
            return NONE;
        }
        spare = now;
        now = told;
        return now.group.size;
    }

    public int fault(int what) {
        if (what == 0) {
            return reader.faultKind;
        }
        return what == 1 ? reader.faultPlace : NONE;
    }

    public int about(int what) {
        switch (what) {
            case 0: return now.group.places;
            case 1: return now.group.moveCount;
            case 2: return now.nameCount;
            case 3: return now.group.size;
            case 4: return now.sorts.subgroupCount;
            case 5: return now.sorts.count;
            case 6: return now.group.isCommuting(now.group.everyone()) ? 1 : 0;
            case 7: return now.keptCount;
            case 8: return tape.length;
            default: return NONE;
        }
    }

    // ---- members, subgroups, sorts

    public int moves(int member, int place) {
        Group group = now.group;
        return group.hasMember(member) && group.hasPlace(place)
                ? placeIn(group.codes.at(member), place) : NONE;
    }

    public int times(int a, int b) {
        return now.group.hasMember(a) && now.group.hasMember(b) ? now.group.both(a, b) : NONE;
    }

    public int order(int member) {
        return now.group.hasMember(member) ? now.group.repeatsOf(member) : NONE;
    }

    public int makesOf(int members) {
        return now.group.hasMembers(members) ? now.group.spanOf(members) : NONE;
    }

    public int sortOf(int members) {
        return now.group.hasMembers(members) ? now.sorts.spannedSort(members) : NONE;
    }

    public int sort(int sort, int what) {
        Sorts sorts = now.sorts;
        if (!sorts.hasSort(sort)) {
            return NONE;
        }
        int first = sorts.firsts.at(sort);
        switch (what) {
            case 0: return Integer.bitCount(first);
            case 1: return sorts.countOf(sort);
            case 2: return first;
            case 3: return Integer.bitCount(now.group.normOf(first));
            case 4: return now.group.isMadeByOne(first) ? 1 : 0;
            case 5: return now.group.isCommuting(first) ? 1 : 0;
            default: return NONE;
        }
    }

    public int within(int i, int j) {
        return now.sorts.hasSort(i) && now.sorts.hasSort(j) ? now.sorts.countWithin(i, j) : NONE;
    }

    public int mark(int i, int j) {
        return now.sorts.hasSort(i) && now.sorts.hasSort(j) ? now.sorts.markAt(i, j) : NONE;
    }

    public int product(int i, int j, int k) {
        Sorts sorts = now.sorts;
        if (!sorts.hasSort(i) || !sorts.hasSort(j) || !sorts.hasSort(k)) {
            return NONE;
        }
        now.sums.putProduct(i, j);
        return (int) now.sums.numberAt(Sums.WORK, k);
    }

    public int residue(int sort, int p) {
        return now.sorts.hasSort(sort) && isPrime(p) ? now.sorts.residueOf(sort, p) : NONE;
    }

    public int block(int sort, int p) {
        return now.sorts.hasSort(sort) && isPrime(p) ? now.sorts.blockOf(sort, p) : NONE;
    }

    public int keeper(int place) {
        return now.group.hasPlace(place) ? now.group.keepersOf(place) : NONE;
    }

    public int orbit(int place) {
        return now.group.hasPlace(place) ? now.group.reachOf(place) : NONE;
    }

    public int coset(int sort, int member) {
        if (!now.sorts.hasSort(sort) || !now.group.hasMember(member)) {
            return NONE;
        }
        return now.group.leastOfCoset(now.sorts.firsts.at(sort), member);
    }

    public int takes(int sort, int member, int g) {
        if (!now.sorts.hasSort(sort) || !now.group.hasMember(member) || !now.group.hasMember(g)) {
            return NONE;
        }
        return now.group.leastOfCoset(now.sorts.firsts.at(sort), now.group.both(member, g));
    }

    public int moebius(int sort) {
        return now.sorts.hasSort(sort) ? now.sorts.moebiusOf(sort) : NO_FRACTION;
    }

    public int mixed(int sort) {
        if (!now.sorts.hasSort(sort)) {
            return NONE;
        }
        return now.sorts.spannedSort(now.group.mixturesOf(now.sorts.firsts.at(sort)));
    }

    public int centre(int sort) {
        return now.sorts.hasSort(sort) ? now.group.centreOf(now.sorts.firsts.at(sort)) : NONE;
    }

    public int pairs(int i, int j) {
        if (!now.sorts.hasSort(i) || !now.sorts.hasSort(j)) {
            return NONE;
        }
        now.sums.putProduct(i, j);
        return now.sums.totalOfWork();
    }

    public int alike() {
        return now.group.commutingPairs();
    }

    public int meet(int i, int j) {
        Sorts sorts = now.sorts;
        if (!sorts.hasSort(i) || !sorts.hasSort(j)) {
            return NONE;
        }
        return sorts.spannedSort(sorts.firsts.at(i) & sorts.firsts.at(j));
    }

    public int join(int i, int j) {
        Sorts sorts = now.sorts;
        if (!sorts.hasSort(i) || !sorts.hasSort(j)) {
            return NONE;
        }
        return sorts.spannedSort(sorts.firsts.at(i) | sorts.firsts.at(j));
    }

    public int orders(int n) {
        return n >= 1 && n <= MOST_MEMBERS ? now.group.countRepeating(n) : NONE;
    }

    public int likes(int member) {
        return now.group.hasMember(member) ? now.group.countLike(member) : NONE;
    }

    // ---- peaks (lowest terms; what 0: above, with its sign, 1: below)

    public int peak(int j, int i, int what) {
        if (!now.sorts.hasSort(j) || !now.sorts.hasSort(i)) {
            return NO_FRACTION;
        }
        return peakPart(1 << j, i, what);
    }

    public int local(int p, int j, int i, int what) {
        if (!isPrime(p) || !now.sorts.hasSort(j) || !now.sorts.hasSort(i)) {
            return NO_FRACTION;
        }
        return peakPart(now.sorts.blockOf(j, p), i, what);
    }

    public int units() {
        now.units.seek();
        return now.units.total();
    }

    public int unit(int k, int i) {
        now.units.seek();
        if (k < 0 || k >= now.units.total() || !now.sorts.hasSort(i)) {
            return NO_FRACTION;
        }
        now.sums.putSigns(now.units.signsOf(k));
        return (int) now.sums.numberAt(Sums.WORK, i);
    }

    // ---- sums

    public long named(int k, int sort) {
        return now.hasName(k) && now.sorts.hasSort(sort)
                ? now.sums.numberAt(Sums.NAMED + k, sort) : NO_NUMBER;
    }

    public long has(int sort) {
        return now.sorts.hasSort(sort) ? now.sums.numberAt(Sums.THE_SUM, sort) : NO_NUMBER;
    }

    public long marked(int sort) {
        return now.sorts.hasSort(sort) ? now.sums.markOf(Sums.THE_SUM, sort) : NO_NUMBER;
    }

    public long character(int member) {
        if (!now.group.hasMember(member)) {
            return NO_NUMBER;
        }
        return now.sums.markOf(Sums.THE_SUM, now.sorts.spannedSort(1 << member));
    }

    public int parts() {
        return now.sums.partsOf(Sums.THE_SUM);
    }

    public long congruence(int sort) {
        if (!now.sorts.hasSort(sort)) {
            return NO_NUMBER;
        }
        now.sums.putMarks(Sums.THE_SUM);
        int members = now.sorts.normSize(sort);
        long sum = now.sorts.sumOverNorm(sort, now.sums.marks);
        return members > 0 ? sum / members : NO_NUMBER;
    }

    public int is(int what) {
        Sums sums = now.sums;
        sums.putMarks(Sums.THE_SUM);
        switch (what) {
            case 0: return sums.hasNoneBelow(Sums.THE_SUM) ? 1 : 0;
            case 1: return sums.marksAre(0, 1) ? 1 : 0;
            case 2: return sums.marksAre(-1, 1) ? 1 : 0;
            case 3: return sums.hasMarkNought() ? 1 : 0;
            default: return NONE;
        }
    }

    // ---- acts (refused: nothing changes but the TAPE)

    public int makes() {
        reader.begin();
        boolean right = reader.readWhole(now);
        tape.length = 0;
        if (!right) {
            return NONE;
        }
        now.become(Sums.VALUES);
        return now.sums.partsOf(Sums.THE_SUM);
    }

    public int take(int what, int n) {
        boolean hasCount = n >= 0 && n <= MOST_COLOURS;
        if (what != 0 && !(hasCount && (what == 1 || what == 2))) {
            return NONE;
        }
        for (int j = 0; j < now.sorts.count; j++) {
            now.sums.marks.put(j, now.group.countKept(what, n, now.sorts.firsts.at(j)));
        }
        now.sums.solve(Sums.WORK);
        now.become(Sums.WORK);
        return (int) now.sums.markOf(Sums.THE_SUM, 0);
    }

    public int marks() {
        boolean like = reader.readRow(now.sums.marks, now.sorts.count);
        tape.length = 0;
        if (!like) {
            return -2;
        }
        int wrong = now.sorts.firstIncongruent(now.sums.marks);
        if (wrong != NONE) {
            return wrong + 1;
        }
        now.sums.solve(Sums.WORK);
        now.become(Sums.WORK);
        return 0;
    }

    public int uses(int k) {
        if (!now.hasName(k)) {
            return NONE;
        }
        now.become(Sums.NAMED + k);
        return now.sums.partsOf(Sums.THE_SUM);
    }

    public long grows(int n, int m, int sort) {
        if (n < -9 || n > 9 || m < -999 || m > 999 || !now.sorts.hasSort(sort)) {
            return NO_NUMBER;
        }
        now.sums.putGrown(n, m, sort);
        if (!now.sums.isInBounds(Sums.WORK)) {
            return NO_NUMBER;
        }
        now.become(Sums.WORK);
        return now.sums.numberAt(Sums.THE_SUM, sort);
    }

    public int undo() {
        return now.keptCount > 0 ? now.takeBack() : NONE;
    }

    /** Of the sum of the peaks of some sorts the fraction of sort i, above or below. */
    private int peakPart(int sortBits, int i, int what) {
        if (what != 0 && what != 1) {
            return NO_FRACTION;
        }
        // Times the number of members each fraction of a peak is a whole number.
        int members = now.group.size;
        now.sums.putScaled(sortBits, members);
        int above = (int) now.sums.numberAt(Sums.WORK, i);
        int divisor = greatestDivisor(members, Math.abs(above));
        if (divisor == 0) {
            return NO_FRACTION;
        }
        return what == 0 ? above / divisor : members / divisor;
    }

    private static int greatestDivisor(int a, int b) {
        int larger = a;
        int smaller = b;
        for (int step = 0; step < 100 && smaller != 0; step++) {
            int rest = larger % smaller;
            larger = smaller;
            smaller = rest;
        }
        return larger;
    }

    private static boolean isPrime(int p) {
        return p == 2 || p == 3 || p == 5;
    }

    private static boolean isIn(int bits, int index) {
        return (bits >> index & 1) != 0;
    }

    private static boolean isPart(int bits, int whole) {
        return (bits & ~whole) == 0;
    }

    // A move is one number, three bits a place, the first place's highest: so moves in the order of
    // their numbers are rows in the order of a dictionary.

    private static int placeIn(int code, int place) {
        return code >> BITS_OF_PLACE * (MOST_PLACES - 1 - place) & 7;
    }

    private static int codeOf(int target, int place) {
        return target << BITS_OF_PLACE * (MOST_PLACES - 1 - place);
    }

    /** Whole numbers that are 0 outside the row, so that no index is a wrong one. */
    private static final class IntRow {
        private final int[] cells;

        IntRow(int size) {
            cells = new int[Math.max(size, 0)];
        }

        int at(int index) {
            return index >= 0 && index < cells.length ? cells[index] : 0;
        }

        void put(int index, int value) {
            if (index >= 0 && index < cells.length) {
                cells[index] = value;
            }
        }
    }

    /** As IntRow, with long numbers. */
    private static final class LongRow {
        private final long[] cells;

        LongRow(int size) {
            cells = new long[Math.max(size, 0)];
        }

        long at(int index) {
            return index >= 0 && index < cells.length ? cells[index] : 0;
        }

        void put(int index, long value) {
            if (index >= 0 && index < cells.length) {
                cells[index] = value;
            }
        }
    }

    /** The group: its members, by their numbers, and sets of members as bits. */
    private static final class Group {
        private final IntRow moveCodes = new IntRow(MOST_MOVES);
        private final IntRow codes = new IntRow(MOST_MEMBERS);
        private final IntRow table = new IntRow(MOST_MEMBERS * MOST_MEMBERS);
        private final IntRow undoers = new IntRow(MOST_MEMBERS);
        private final IntRow found = new IntRow(MOST_MEMBERS);
        private int places;
        private int moveCount;
        private int size;

        void begin(int placeCount) {
            places = placeCount;
            moveCount = 0;
            size = 0;
            gather();
        }

        /** False if the group has too many members by this move. */
        boolean addMove(int code) {
            if (moveCount >= MOST_MOVES) {
                return false;
            }
            moveCodes.put(moveCount, code);
            moveCount++;
            return gather();
        }

        private boolean gather() {
            int still = 0;
            for (int place = 0; place < places; place++) {
                still |= codeOf(place, place);
            }
            codes.put(0, still);
            size = 1;
            for (int i = 0; i < size && i < MOST_MEMBERS; i++) {
                for (int m = 0; m < moveCount; m++) {
                    int next = behind(codes.at(i), moveCodes.at(m));
                    if (indexOf(next) != NONE) {
                        continue;
                    }
                    if (size >= MOST_MEMBERS) {
                        return false;
                    }
                    codes.put(size, next);
                    size++;
                }
            }
            return true;
        }

        private int behind(int code, int later) {
            int both = 0;
            for (int place = 0; place < places; place++) {
                both |= codeOf(placeIn(later, placeIn(code, place)), place);
            }
            return both;
        }

        private int indexOf(int code) {
            for (int i = 0; i < size; i++) {
                if (codes.at(i) == code) {
                    return i;
                }
            }
            return NONE;
        }

        /** Numbers the members as rows of a dictionary and fills the tables. */
        void settle() {
            for (int i = 1; i < size; i++) {
                int code = codes.at(i);
                int to = i;
                while (to > 0 && codes.at(to - 1) > code) {
                    codes.put(to, codes.at(to - 1));
                    to--;
                }
                codes.put(to, code);
            }
            for (int a = 0; a < size; a++) {
                for (int b = 0; b < size; b++) {
                    int both = indexOf(behind(codes.at(a), codes.at(b)));
                    table.put(a * MOST_MEMBERS + b, both);
                    if (both == 0) {
                        undoers.put(a, b);
                    }
                }
            }
        }

        boolean hasMember(int member) {
            return member >= 0 && member < size;
        }

        boolean hasPlace(int place) {
            return place >= 0 && place < places;
        }

        boolean hasMembers(int bits) {
            return bits >>> size == 0;
        }

        int everyone() {
            return (1 << size) - 1;
        }

        int both(int a, int b) {
            return table.at(a * MOST_MEMBERS + b);
        }

        int repeatsOf(int member) {
            int reached = member;
            int count = 1;
            while (reached != 0 && count < MOST_MEMBERS) {
                reached = both(reached, member);
                count++;
            }
            return count;
        }

        int countRepeating(int n) {
            int count = 0;
            for (int member = 0; member < size; member++) {
                if (repeatsOf(member) == n) {
                    count++;
                }
            }
            return count;
        }

        /** The subgroup that members make. */
        int spanOf(int bits) {
            int span = 1;
            int count = 1;
            found.put(0, 0);
            for (int i = 0; i < count && i < MOST_MEMBERS; i++) {
                for (int g = 0; g < size; g++) {
                    int next = isIn(bits, g) ? both(found.at(i), g) : 0;
                    if (!isIn(span, next)) {
                        span |= 1 << next;
                        found.put(count, next);
                        count++;
                    }
                }
            }
            return span;
        }

        int turn(int member, int g) {
            int undone = table.at(undoers.at(g) * MOST_MEMBERS + member);
            return table.at(undone * MOST_MEMBERS + g);
        }

        int turnAll(int bits, int g) {
            int turned = 0;
            for (int member = 0; member < size; member++) {
                if (isIn(bits, member)) {
                    turned |= 1 << turn(member, g);
                }
            }
            return turned;
        }

        int normOf(int bits) {
            int norm = 0;
            for (int g = 0; g < size; g++) {
                if (turnAll(bits, g) == bits) {
                    norm |= 1 << g;
                }
            }
            return norm;
        }

        int countLike(int member) {
            int like = 0;
            for (int g = 0; g < size; g++) {
                like |= 1 << turn(member, g);
            }
            return Integer.bitCount(like);
        }

        int leastOfCoset(int bits, int member) {
            int least = member;
            for (int h = 0; h < size; h++) {
                if (isIn(bits, h)) {
                    least = Math.min(least, both(h, member));
                }
            }
            return least;
        }

        int commutingPairs() {
            int count = 0;
            for (int x = 0; x < size; x++) {
                count += Integer.bitCount(commutingWith(x, everyone()));
            }
            return count;
        }

        private int commutingWith(int x, int bits) {
            int commuting = 0;
            for (int y = 0; y < size; y++) {
                if (isIn(bits, y) && both(x, y) == both(y, x)) {
                    commuting |= 1 << y;
                }
            }
            return commuting;
        }

        int centreOf(int bits) {
            int centre = bits;
            for (int x = 0; x < size; x++) {
                if (isIn(bits, x)) {
                    centre &= commutingWith(x, bits);
                }
            }
            return centre;
        }

        boolean isCommuting(int bits) {
            return centreOf(bits) == bits;
        }

        boolean isMadeByOne(int bits) {
            int count = Integer.bitCount(bits);
            for (int x = 0; x < size; x++) {
                if (isIn(bits, x) && repeatsOf(x) == count) {
                    return true;
                }
            }
            return false;
        }

        int mixturesOf(int bits) {
            int mixtures = 0;
            for (int x = 0; x < size; x++) {
                for (int y = 0; y < size; y++) {
                    if (isIn(bits, x) && isIn(bits, y)) {
                        int undone = both(undoers.at(x), undoers.at(y));
                        mixtures |= 1 << both(undone, both(x, y));
                    }
                }
            }
            return mixtures;
        }

        int keepersOf(int place) {
            int keepers = 0;
            for (int member = 0; member < size; member++) {
                if (placeIn(codes.at(member), place) == place) {
                    keepers |= 1 << member;
                }
            }
            return keepers;
        }

        int reachOf(int place) {
            return placesReached(place, everyone());
        }

        private int placesReached(int place, int bits) {
            int reached = 0;
            for (int member = 0; member < size; member++) {
                if (isIn(bits, member)) {
                    reached |= 1 << placeIn(codes.at(member), place);
                }
            }
            return reached;
        }

        /** How many places (what 0), sets of n places (1), paintings with n colours (2) are left as they are. */
        int countKept(int what, int n, int bits) {
            int kept = 0;
            int parts = 0;
            for (int place = 0; place < places; place++) {
                int reached = placesReached(place, bits);
                if (reached == 1 << place) {
                    kept++;
                }
                if ((reached & -reached) == 1 << place) {
                    parts++;
                }
            }
            if (what == 0) {
                return kept;
            }
            return what == 1 ? countSetsKept(n, bits) : power(n, parts);
        }

        private int countSetsKept(int n, int bits) {
            int count = 0;
            for (int set = 0; set < 1 << places; set++) {
                if (Integer.bitCount(set) == n && isSetKept(set, bits)) {
                    count++;
                }
            }
            return count;
        }

        private boolean isSetKept(int set, int bits) {
            for (int place = 0; place < places; place++) {
                if (isIn(set, place) && !isPart(placesReached(place, bits), set)) {
                    return false;
                }
            }
            return true;
        }

        private static int power(int base, int exponent) {
            int result = 1;
            for (int i = 0; i < exponent; i++) {
                result *= base;
            }
            return result;
        }
    }

    /** The subgroups, their sorts, and the marks of each sort. */
    private static final class Sorts {
        private final Group group;
        private final IntRow subgroups = new IntRow(MOST_SUBGROUPS);
        private final IntRow sortsOfSubgroups = new IntRow(MOST_SUBGROUPS);
        private final IntRow moebiusRow = new IntRow(MOST_SUBGROUPS);
        private final IntRow firsts = new IntRow(MOST_SORTS);
        private final IntRow table = new IntRow(MOST_SORTS * MOST_SORTS);
        private int subgroupCount;
        private int count;

        Sorts(Group ofGroup) {
            group = ofGroup;
        }

        void settle() {
            subgroupCount = 1;
            subgroups.put(0, 1);
            for (int s = 0; s < subgroupCount && s < MOST_SUBGROUPS; s++) {
                for (int g = 0; g < group.size; g++) {
                    if (!isIn(subgroups.at(s), g)) {
                        addSubgroup(group.spanOf(subgroups.at(s) | 1 << g));
                    }
                }
            }
            arrange();
            numberSorts();
            fillTable();
        }

        private void addSubgroup(int bits) {
            if (indexOf(bits) == NONE && subgroupCount < MOST_SUBGROUPS) {
                subgroups.put(subgroupCount, bits);
                subgroupCount++;
            }
        }

        private int indexOf(int bits) {
            for (int s = 0; s < subgroupCount; s++) {
                if (subgroups.at(s) == bits) {
                    return s;
                }
            }
            return NONE;
        }

        private void arrange() {
            for (int s = 1; s < subgroupCount; s++) {
                int bits = subgroups.at(s);
                int to = s;
                while (to > 0 && isAhead(bits, subgroups.at(to - 1))) {
                    subgroups.put(to, subgroups.at(to - 1));
                    to--;
                }
                subgroups.put(to, bits);
            }
        }

        private static boolean isAhead(int bits, int other) {
            int fewer = Integer.bitCount(bits) - Integer.bitCount(other);
            return fewer < 0 || fewer == 0 && bits < other;
        }

        // The subgroups stand by their size and bits, so the first met of a sort is its FIRST.
        private void numberSorts() {
            count = 0;
            for (int s = 0; s < subgroupCount; s++) {
                sortsOfSubgroups.put(s, NONE);
            }
            for (int s = 0; s < subgroupCount; s++) {
                if (sortsOfSubgroups.at(s) != NONE || count >= MOST_SORTS) {
                    continue;
                }
                firsts.put(count, subgroups.at(s));
                for (int g = 0; g < group.size; g++) {
                    sortsOfSubgroups.put(indexOf(group.turnAll(subgroups.at(s), g)), count);
                }
                count++;
            }
        }

        // All of a subgroup take the coset of x to itself just if x's undoer turns it into H: so each
        // such coset is met as often as H has members.
        private void fillTable() {
            for (int j = 0; j < count; j++) {
                for (int i = 0; i < count; i++) {
                    table.put(i * MOST_SORTS + j, 0);
                }
                for (int g = 0; g < group.size; g++) {
                    countTurned(group.turnAll(firsts.at(j), g), j);
                }
                for (int i = 0; i < count; i++) {
                    int members = Integer.bitCount(firsts.at(i));
                    table.put(i * MOST_SORTS + j, members > 0 ? markAt(i, j) / members : 0);
                }
            }
        }

        private void countTurned(int turned, int j) {
            for (int i = 0; i < count; i++) {
                if (isPart(turned, firsts.at(i))) {
                    table.put(i * MOST_SORTS + j, markAt(i, j) + 1);
                }
            }
        }

        boolean hasSort(int sort) {
            return sort >= 0 && sort < count;
        }

        int markAt(int i, int j) {
            return table.at(i * MOST_SORTS + j);
        }

        int spannedSort(int bits) {
            return sortsOfSubgroups.at(indexOf(group.spanOf(bits)));
        }

        int countOf(int sort) {
            return countWithin(sort, count - 1);
        }

        int countWithin(int i, int j) {
            int parts = 0;
            for (int s = 0; s < subgroupCount; s++) {
                if (sortsOfSubgroups.at(s) == i && isPart(subgroups.at(s), firsts.at(j))) {
                    parts++;
                }
            }
            return parts;
        }

        int normSize(int sort) {
            return Integer.bitCount(group.normOf(firsts.at(sort)));
        }

        int residueOf(int sort, int p) {
            int whole = firsts.at(sort);
            for (int s = 0; s < subgroupCount; s++) {
                int bits = subgroups.at(s);
                if (isPart(bits, whole) && isPart(whole, group.normOf(bits))
                        && isPowerApart(Integer.bitCount(bits), Integer.bitCount(whole), p)) {
                    return sortsOfSubgroups.at(s);
                }
            }
            return sort;
        }

        private static boolean isPowerApart(int few, int many, int p) {
            int reached = few;
            while (reached > 0 && reached < many && p > 1) {
                reached *= p;
            }
            return reached == many;
        }

        int blockOf(int sort, int p) {
            int residue = residueOf(sort, p);
            int bits = 0;
            for (int i = 0; i < count; i++) {
                if (residueOf(i, p) == residue) {
                    bits |= 1 << i;
                }
            }
            return bits;
        }

        int moebiusOf(int sort) {
            int value = 0;
            for (int s = subgroupCount - 1; s >= 0; s--) {
                int own = s == subgroupCount - 1 ? 1 : 0;
                for (int above = s + 1; above < subgroupCount; above++) {
                    if (isPart(subgroups.at(s), subgroups.at(above))) {
                        own -= moebiusRow.at(above);
                    }
                }
                moebiusRow.put(s, own);
                if (sortsOfSubgroups.at(s) == sort) {
                    value = own;
                }
            }
            return value;
        }

        /**
         * The sum of CONGRUENCE, taken over all members of the norm and not over their cosets: so it
         * is as many times the sum told of cosets as a coset has members.
         */
        long sumOverNorm(int sort, LongRow row) {
            int first = firsts.at(sort);
            int norm = group.normOf(first);
            long sum = 0;
            for (int g = 0; g < group.size; g++) {
                if (isIn(norm, g)) {
                    sum += row.at(spannedSort(first | 1 << g));
                }
            }
            return sum;
        }

        /** The first sort at which a row is not as the marks of a sum are, or NONE. */
        int firstIncongruent(LongRow row) {
            for (int j = 0; j < count; j++) {
                int members = normSize(j);
                if (members > 0 && sumOverNorm(j, row) % members != 0) {
                    return j;
                }
            }
            return NONE;
        }
    }

    /**
     * The units. By Yoshida's theorem a row of 1 and -1 is that of a sum just if at each sort, with
     * its subgroup H, the marks at H with g, by that at H, are multiplied as the cosets of the g in
     * the norm of H are: so with bits for the signs the rows are those of a space over two elements.
     */
    private static final class Units {
        private final Sorts sorts;
        private final IntRow basis = new IntRow(MOST_SORTS);
        private final IntRow joined = new IntRow(MOST_MEMBERS);
        private int dimension;
        private boolean known;

        Units(Sorts ofSorts) {
            sorts = ofSorts;
        }

        void forget() {
            known = false;
        }

        int total() {
            return 1 << dimension;
        }

        void seek() {
            if (known) {
                return;
            }
            known = true;
            dimension = sorts.count;
            for (int j = 0; j < sorts.count; j++) {
                basis.put(j, 1 << j);
            }
            for (int j = 0; j < sorts.count; j++) {
                narrowAt(j);
            }
            straighten();
        }

        // The first sort's bit is the highest, so that rows in the order of their bits are in theirs.
        private int bitOf(int sort) {
            return 1 << sorts.count - 1 - sort;
        }

        private void narrowAt(int sort) {
            Group group = sorts.group;
            int first = sorts.firsts.at(sort);
            int leasts = 0;
            int norm = group.normOf(first);
            for (int g = 0; g < group.size; g++) {
                if (isIn(norm, g) && group.leastOfCoset(first, g) == g) {
                    leasts |= 1 << g;
                    joined.put(g, bitOf(sorts.spannedSort(first | 1 << g)));
                }
            }
            for (int g = 0; g < group.size; g++) {
                for (int k = 0; k < group.size; k++) {
                    if (isIn(leasts, g) && isIn(leasts, k)) {
                        int both = group.leastOfCoset(first, group.both(g, k));
                        narrow(bitOf(sort) ^ joined.at(g) ^ joined.at(k) ^ joined.at(both));
                    }
                }
            }
        }

        /** Leaves of the space the rows that have an even number of the bits. */
        private void narrow(int bits) {
            int odd = NONE;
            for (int b = 0; b < dimension; b++) {
                if ((Integer.bitCount(basis.at(b) & bits) & 1) == 0) {
                    continue;
                }
                if (odd == NONE) {
                    odd = b;
                } else {
                    basis.put(b, basis.at(b) ^ basis.at(odd));
                }
            }
            if (odd != NONE) {
                dimension--;
                basis.put(odd, basis.at(dimension));
            }
        }

        /** Makes the basis such that each row's highest bit is in no other, the highest first. */
        private void straighten() {
            int done = 0;
            for (int sort = 0; sort < sorts.count; sort++) {
                int from = done;
                while (from < dimension && (basis.at(from) & bitOf(sort)) == 0) {
                    from++;
                }
                if (from >= dimension) {
                    continue;
                }
                int row = basis.at(from);
                basis.put(from, basis.at(done));
                basis.put(done, row);
                for (int b = 0; b < dimension; b++) {
                    if (b != done && (basis.at(b) & bitOf(sort)) != 0) {
                        basis.put(b, basis.at(b) ^ row);
                    }
                }
                done++;
            }
        }

        /** The sorts at which the k-th unit has the mark -1, as bits (sort 0 lowest). */
        int signsOf(int k) {
            int row = 0;
            for (int b = 0; b < dimension; b++) {
                if (isIn(k, dimension - 1 - b)) {
                    row ^= basis.at(b);
                }
            }
            int signs = 0;
            for (int sort = 0; sort < sorts.count; sort++) {
                if ((row & bitOf(sort)) != 0) {
                    signs |= 1 << sort;
                }
            }
            return signs;
        }
    }

    /** Sums, each on a shelf with a number: THE SUM, those with names, those kept, those reckoned with. */
    private static final class Sums {
        private static final int THE_SUM = 0;
        private static final int NAMED = 1;
        private static final int KEPT = NAMED + MOST_NAMES;
        private static final int VALUES = KEPT + MOST_KEPT;
        private static final int WORK = VALUES + MOST_VALUES;
        private static final int SHELVES = WORK + 1;

        private final Sorts sorts;
        private final LongRow numbers = new LongRow(SHELVES * MOST_SORTS);
        private final LongRow marks = new LongRow(MOST_SORTS);

        Sums(Sorts ofSorts) {
            sorts = ofSorts;
        }

        long numberAt(int shelf, int sort) {
            return numbers.at(shelf * MOST_SORTS + sort);
        }

        private void putNumber(int shelf, int sort, long number) {
            numbers.put(shelf * MOST_SORTS + sort, number);
        }

        void putSingle(int shelf, int sort, long number) {
            for (int i = 0; i < sorts.count; i++) {
                numbers.put(shelf * MOST_SORTS + i, i == sort ? number : 0);
            }
        }

        void copy(int from, int to) {
            for (int i = 0; i < sorts.count; i++) {
                numbers.put(to * MOST_SORTS + i, numbers.at(from * MOST_SORTS + i));
            }
        }

        long markOf(int shelf, int sort) {
            long mark = 0;
            for (int i = 0; i < sorts.count; i++) {
                mark += numbers.at(shelf * MOST_SORTS + i) * sorts.table.at(i * MOST_SORTS + sort);
            }
            return mark;
        }

        void putMarks(int shelf) {
            for (int j = 0; j < sorts.count; j++) {
                marks.put(j, markOf(shelf, j));
            }
        }

        /** Puts the sum that has the marks on a shelf; a sort has no marks at later ones. */
        void solve(int shelf) {
            for (int j = sorts.count - 1; j >= 0; j--) {
                long rest = marks.at(j);
                for (int i = j + 1; i < sorts.count; i++) {
                    rest -= numbers.at(shelf * MOST_SORTS + i) * sorts.table.at(i * MOST_SORTS + j);
                }
                int own = sorts.table.at(j * MOST_SORTS + j);
                numbers.put(shelf * MOST_SORTS + j, own != 0 ? rest / own : 0);
            }
        }

        void putProduct(int i, int j) {
            for (int k = 0; k < sorts.count; k++) {
                marks.put(k, (long) sorts.markAt(i, k) * sorts.markAt(j, k));
            }
            solve(WORK);
        }

        void putScaled(int sortBits, int scale) {
            for (int j = 0; j < sorts.count; j++) {
                marks.put(j, isIn(sortBits, j) ? scale : 0);
            }
            solve(WORK);
        }

        void putSigns(int signs) {
            for (int j = 0; j < sorts.count; j++) {
                marks.put(j, isIn(signs, j) ? -1 : 1);
            }
            solve(WORK);
        }

        void putGrown(int n, int m, int sort) {
            for (int i = 0; i < sorts.count; i++) {
                putNumber(WORK, i, n * numberAt(THE_SUM, i) + (i == sort ? m : 0));
            }
        }

        int totalOfWork() {
            long total = 0;
            for (int i = 0; i < sorts.count; i++) {
                total += numberAt(WORK, i);
            }
            return (int) total;
        }

        int partsOf(int shelf) {
            int parts = 0;
            for (int i = 0; i < sorts.count; i++) {
                if (numberAt(shelf, i) != 0) {
                    parts++;
                }
            }
            return parts;
        }

        boolean hasNoneBelow(int shelf) {
            for (int i = 0; i < sorts.count; i++) {
                if (numberAt(shelf, i) < 0) {
                    return false;
                }
            }
            return true;
        }

        boolean marksAre(int one, int other) {
            for (int j = 0; j < sorts.count; j++) {
                if (marks.at(j) != one && marks.at(j) != other) {
                    return false;
                }
            }
            return true;
        }

        boolean hasMarkNought() {
            for (int j = 0; j < sorts.count; j++) {
                if (marks.at(j) == 0) {
                    return true;
                }
            }
            return false;
        }

        boolean isInBounds(int shelf) {
            for (int i = 0; i < sorts.count; i++) {
                if (Math.abs(numberAt(shelf, i)) > LARGEST || Math.abs(markOf(shelf, i)) > LARGEST) {
                    return false;
                }
            }
            return true;
        }

        void putNegative(int shelf) {
            for (int i = 0; i < sorts.count; i++) {
                putNumber(shelf, i, -numberAt(shelf, i));
            }
        }

        /** One shelf's sum becomes the sum of it and factor times the other's. */
        void add(int shelf, int other, int factor) {
            for (int i = 0; i < sorts.count; i++) {
                putNumber(shelf, i, numberAt(shelf, i) + factor * numberAt(other, i));
            }
        }

        /** One shelf's sum becomes the product of it and the other's; false if a mark is too large. */
        boolean multiply(int shelf, int other) {
            for (int j = 0; j < sorts.count; j++) {
                long mark = markOf(shelf, j);
                long otherMark = markOf(other, j);
                if (mark != 0 && Math.abs(otherMark) > LARGEST / Math.abs(mark)) {
                    return false;
                }
                marks.put(j, mark * otherMark);
            }
            solve(shelf);
            return true;
        }
    }

    /** Reckons an E, sign by sign: signs that wait, and the sums that they wait with. */
    private static final class Calculator {
        private static final int BRACKET = '(';
        private static final int UNARY = '~';

        private final Sums sums;
        private final IntRow signs = new IntRow(MOST_SIGNS);
        private int signCount;
        private int valueCount;
        private int around;
        private int brackets;
        private boolean tooLarge;

        Calculator(Sums ofSums) {
            sums = ofSums;
        }

        void begin() {
            signCount = 0;
            valueCount = 0;
            around = 0;
            brackets = 0;
            tooLarge = false;
        }

        private int topShelf() {
            return Sums.VALUES + valueCount - 1;
        }

        /** The shelf of one more value; there is room, as at most seven units are around one. */
        private int nextShelf() {
            if (valueCount < MOST_VALUES) {
                valueCount++;
            }
            return topShelf();
        }

        private void pushSign(int sign) {
            if (signCount < MOST_SIGNS) {
                signs.put(signCount, sign);
                signCount++;
            }
        }

        private int topSign() {
            return signs.at(signCount - 1);
        }

        void open(boolean bracket) {
            pushSign(bracket ? BRACKET : UNARY);
            around++;
            brackets += bracket ? 1 : 0;
        }

        void pushSingle(int sort, int number) {
            sums.putSingle(nextShelf(), sort, number);
        }

        void pushNamed(int k) {
            sums.copy(Sums.NAMED + k, nextShelf());
        }

        void raise(int n) {
            int top = topShelf();
            sums.copy(top, Sums.WORK);
            sums.putSingle(top, sums.sorts.count - 1, 1);
            for (int i = 0; i < n && i < MOST_POWER; i++) {
                boolean right = sums.multiply(top, Sums.WORK);
                settle(right && sums.isInBounds(top));
            }
        }

        private void settle(boolean right) {
            if (!right) {
                tooLarge = true;
                sums.putSingle(topShelf(), NONE, 0);
            }
        }

        /** The value on top is a whole F: each - directly ahead of it takes it. */
        void negate() {
            while (signCount > 0 && topSign() == UNARY) {
                signCount--;
                around--;
                sums.putNegative(topShelf());
            }
        }

        /** A sign between two sums has come; what binds as much or more is reckoned first. */
        void put(int sign) {
            reckon(sign == '*');
            pushSign(sign);
        }

        /** The bracket on top goes, all that waited behind it is reckoned. */
        void close() {
            if (signCount > 0) {
                signCount--;
                around--;
                brackets--;
            }
        }

        /** Reckons what waits behind the last bracket: products only, or all. */
        void reckon(boolean productsOnly) {
            while (signCount > 0 && valueCount > 1 && topSign() != BRACKET
                    && (topSign() == '*' || !productsOnly)) {
                int sign = topSign();
                int last = topShelf();
                signCount--;
                valueCount--;
                boolean right = true;
                if (sign == '*') {
                    right = sums.multiply(topShelf(), last);
                } else {
                    sums.add(topShelf(), last, sign == '+' ? 1 : -1);
                }
                settle(right && sums.isInBounds(topShelf()));
            }
        }
    }

    /** All that a text tells, and what has been done with it since. */
    private static final class Troupe {
        private final Group group = new Group();
        private final Sorts sorts = new Sorts(group);
        private final Sums sums = new Sums(sorts);
        private final Units units = new Units(sorts);
        private final Calculator calculator = new Calculator(sums);
        private final IntRow nameWords = new IntRow(MOST_NAMES);
        private int nameCount;
        private int keptCount;
        private int keptNext;

        void begin(int places) {
            group.begin(places);
            nameCount = 0;
            keptCount = 0;
            keptNext = 0;
        }

        /** All moves are told. */
        void settle() {
            group.settle();
            sorts.settle();
            units.forget();
            sums.putSingle(Sums.THE_SUM, NONE, 0);
        }

        boolean hasName(int k) {
            return k >= 0 && k < nameCount;
        }

        int nameOf(int word) {
            for (int k = 0; k < nameCount; k++) {
                if (nameWords.at(k) == word) {
                    return k;
                }
            }
            return NONE;
        }

        /** The calculator's sum gets a name. */
        void addName(int word) {
            if (nameCount < MOST_NAMES) {
                nameWords.put(nameCount, word);
                sums.copy(Sums.VALUES, Sums.NAMED + nameCount);
                nameCount++;
            }
        }

        void become(int shelf) {
            sums.copy(Sums.THE_SUM, Sums.KEPT + keptNext);
            keptNext = (keptNext + 1) % MOST_KEPT;
            keptCount = Math.min(keptCount + 1, MOST_KEPT);
            sums.copy(shelf, Sums.THE_SUM);
        }

        int takeBack() {
            keptNext = (keptNext + MOST_KEPT - 1) % MOST_KEPT;
            keptCount--;
            sums.copy(Sums.KEPT + keptNext, Sums.THE_SUM);
            return keptCount;
        }
    }

    /** The tape, and its tokens one behind the other. */
    private static final class Tokens {
        private static final int END = 0;
        private static final int WORD = 1;
        private static final int NUMBER = 2;
        private static final int SIGN = 3;
        private static final int NO_TOKEN = 4;
        private static final int MOST_LETTERS = 6;
        private static final int MOST_DIGITS = 3;

        private final IntRow bytes = new IntRow(MOST_BYTES);
        private int length;
        private int start;
        private int next;
        private int kind;
        private int value;

        void append(int four) {
            for (int shift = 24; shift >= 0; shift -= 8) {
                bytes.put(length, four >> shift & 255);
                length++;
            }
        }

        void rewind() {
            next = 0;
            step();
        }

        void step() {
            start = pastBlanks(next);
            next = start;
            value = 0;
            if (start >= length) {
                kind = END;
            } else if (isLetter(bytes.at(start))) {
                readWord();
            } else if (isDigit(bytes.at(start))) {
                readNumber();
            } else {
                value = bytes.at(start);
                kind = isSignByte(value) ? SIGN : NO_TOKEN;
                next = start + 1;
            }
        }

        private void readWord() {
            while (next < length && isLetter(bytes.at(next))) {
                value = value * LETTERS + bytes.at(next) - 'a' + 1;
                next++;
            }
            kind = next - start <= MOST_LETTERS ? WORD : NO_TOKEN;
        }

        private void readNumber() {
            next = pastDigits(start);
            value = numberFrom(start, next);
            boolean letterBehind = next < length && isLetter(bytes.at(next));
            kind = next - start <= MOST_DIGITS && !letterBehind ? NUMBER : NO_TOKEN;
        }

        int pastBlanks(int from) {
            int to = from;
            while (to < length && isBlank(bytes.at(to))) {
                to++;
            }
            return to;
        }

        int pastDigits(int from) {
            int to = from;
            while (to < length && isDigit(bytes.at(to))) {
                to++;
            }
            return to;
        }

        int numberFrom(int from, int to) {
            int number = 0;
            for (int i = from; i < to; i++) {
                number = number * 10 + bytes.at(i) - '0';
            }
            return number;
        }

        private static boolean isBlank(int b) {
            return b == ' ' || b == '\n';
        }

        private static boolean isLetter(int b) {
            return b >= 'a' && b <= 'z';
        }

        private static boolean isDigit(int b) {
            return b >= '0' && b <= '9';
        }

        private static boolean isSignByte(int b) {
            return b == '=' || b == '+' || b == '-' || b == '*' || b == '^' || b == '(' || b == ')' || b == ';';
        }

        boolean isNumber() {
            return kind == NUMBER;
        }

        boolean isSign(int sign) {
            return kind == SIGN && value == sign;
        }

        boolean isWord(String word) {
            if (kind != WORD || word.length() != next - start) {
                return false;
            }
            for (int i = 0; i < word.length(); i++) {
                if (bytes.at(start + i) != word.charAt(i)) {
                    return false;
                }
            }
            return true;
        }

        boolean isName() {
            return kind == WORD && !isWord("places") && !isWord("move") && !isWord("let") && !isWord("sort");
        }
    }

    /** Reads the tape; what can't stand is refused, the fault with its place is told by fault(). */
    private static final class Reader {
        private static final int NO_TOKEN = 1;
        private static final int MISPLACED = 2;
        private static final int WRONG_NAME = 3;
        private static final int WRONG_NUMBER = 4;
        private static final int ONE_TOO_MANY = 5;
        private static final int TOO_LARGE = 6;
        private static final int MOST_MARK_DIGITS = 6;

        private final Tokens tokens;
        private int unitCount;
        private int faultKind;
        private int faultPlace = NONE;

        Reader(Tokens ofTape) {
            tokens = ofTape;
        }

        void begin() {
            faultKind = 0;
            faultPlace = NONE;
            tokens.rewind();
        }

        private boolean refuse(int kind) {
            return refuseAt(tokens.kind == Tokens.NO_TOKEN ? NO_TOKEN : kind, tokens.start);
        }

        private boolean refuseAt(int kind, int place) {
            faultKind = kind;
            faultPlace = place;
            return false;
        }

        private boolean passSign(int sign) {
            if (!tokens.isSign(sign)) {
                return refuse(MISPLACED);
            }
            tokens.step();
            return true;
        }

        boolean readPlaces(Troupe troupe) {
            if (!tokens.isWord("places")) {
                return refuse(MISPLACED);
            }
            tokens.step();
            if (!tokens.isNumber()) {
                return refuse(MISPLACED);
            }
            if (tokens.value < 1 || tokens.value > MOST_PLACES) {
                return refuse(WRONG_NUMBER);
            }
            troupe.begin(tokens.value);
            tokens.step();
            return passSign(';');
        }

        boolean readMoves(Troupe troupe) {
            for (int line = 0; line <= MOST_MOVES && tokens.isWord("move"); line++) {
                int place = tokens.start;
                if (troupe.group.moveCount >= MOST_MOVES) {
                    return refuse(ONE_TOO_MANY);
                }
                tokens.step();
                int code = readMove(troupe.group.places);
                if (code == NONE || !passSign(';')) {
                    return false;
                }
                if (!troupe.group.addMove(code)) {
                    return refuseAt(ONE_TOO_MANY, place);
                }
            }
            return true;
        }

        /** The move's code, or NONE at a fault. */
        private int readMove(int places) {
            int code = 0;
            int taken = 0;
            for (int place = 0; place < places; place++) {
                if (!tokens.isNumber()) {
                    refuse(MISPLACED);
                    return NONE;
                }
                int target = tokens.value;
                if (target >= places || isIn(taken, target)) {
                    refuse(WRONG_NUMBER);
                    return NONE;
                }
                taken |= 1 << target;
                code |= codeOf(target, place);
                tokens.step();
            }
            return code;
        }

        boolean readLets(Troupe troupe) {
            for (int line = 0; line <= MOST_NAMES && tokens.isWord("let"); line++) {
                int place = tokens.start;
                if (troupe.nameCount >= MOST_NAMES) {
                    return refuse(ONE_TOO_MANY);
                }
                tokens.step();
                if (!tokens.isName()) {
                    return refuse(MISPLACED);
                }
                int word = tokens.value;
                if (troupe.nameOf(word) != NONE) {
                    return refuse(WRONG_NAME);
                }
                tokens.step();
                if (!passSign('=') || !readSum(troupe) || !passSign(';')) {
                    return false;
                }
                if (troupe.calculator.tooLarge) {
                    return refuseAt(TOO_LARGE, place);
                }
                troupe.addName(word);
            }
            return tokens.kind == Tokens.END || refuse(MISPLACED);
        }

        /** An E alone, with the end behind it. */
        boolean readWhole(Troupe troupe) {
            if (!readSum(troupe)) {
                return false;
            }
            if (tokens.kind != Tokens.END) {
                return refuse(MISPLACED);
            }
            return !troupe.calculator.tooLarge || refuseAt(TOO_LARGE, 0);
        }

        /** An E: its sum is the calculator's first value then. */
        private boolean readSum(Troupe troupe) {
            Calculator calculator = troupe.calculator;
            calculator.begin();
            unitCount = 0;
            boolean more = true;
            // Each round takes an operand, and there are at most 30 of them.
            for (int round = 0; round <= MOST_UNITS && more; round++) {
                if (!readAhead(calculator) || !readOperand(troupe) || !readBehind(calculator)) {
                    return false;
                }
                more = tokens.isSign('+') || tokens.isSign('-') || tokens.isSign('*');
                if (more) {
                    calculator.put(tokens.value);
                    tokens.step();
                }
            }
            if (calculator.brackets > 0) {
                return refuse(MISPLACED);
            }
            calculator.reckon(false);
            return true;
        }

        private boolean countUnit(Calculator calculator) {
            if (unitCount >= MOST_UNITS || calculator.around > MOST_AROUND) {
                return refuse(ONE_TOO_MANY);
            }
            unitCount++;
            return true;
        }

        /** What may stand ahead of an operand: each - that takes one F, each bracket that opens. */
        private boolean readAhead(Calculator calculator) {
            for (int level = 0; level <= MOST_UNITS; level++) {
                boolean bracket = tokens.isSign('(');
                if (!bracket && !tokens.isSign('-')) {
                    return true;
                }
                if (!countUnit(calculator)) {
                    return false;
                }
                calculator.open(bracket);
                tokens.step();
            }
            return refuse(ONE_TOO_MANY);
        }

        private boolean readOperand(Troupe troupe) {
            Calculator calculator = troupe.calculator;
            int last = troupe.sorts.count - 1;
            boolean number = tokens.isNumber();
            if (!number && !tokens.isWord("sort")) {
                if (!readNamed(troupe)) {
                    return false;
                }
            } else if (!countUnit(calculator)) {
                return false;
            } else if (number) {
                calculator.pushSingle(last, tokens.value);
            } else {
                tokens.step();
                if (!tokens.isNumber()) {
                    return refuse(MISPLACED);
                }
                if (tokens.value > last) {
                    return refuse(WRONG_NUMBER);
                }
                calculator.pushSingle(tokens.value, 1);
            }
            tokens.step();
            return true;
        }

        private boolean readNamed(Troupe troupe) {
            if (!tokens.isName()) {
                return refuse(MISPLACED);
            }
            int k = troupe.nameOf(tokens.value);
            if (k == NONE) {
                return refuse(WRONG_NAME);
            }
            if (!countUnit(troupe.calculator)) {
                return false;
            }
            troupe.calculator.pushNamed(k);
            return true;
        }

        /** What may stand behind an operand: a power, brackets that close, each with a power. */
        private boolean readBehind(Calculator calculator) {
            for (int level = 0; level <= MOST_UNITS; level++) {
                if (tokens.isSign('^')) {
                    tokens.step();
                    if (!tokens.isNumber() || tokens.value > MOST_POWER) {
                        return refuse(MISPLACED);
                    }
                    calculator.raise(tokens.value);
                    tokens.step();
                }
                calculator.negate();
                if (calculator.brackets <= 0 || !tokens.isSign(')')) {
                    return true;
                }
                calculator.reckon(false);
                calculator.close();
                tokens.step();
            }
            return refuse(MISPLACED);
        }

        /** Just so many whole numbers with blanks between; false if the tape is not like that. */
        boolean readRow(LongRow row, int count) {
            int from = tokens.pastBlanks(0);
            for (int i = 0; i < count; i++) {
                boolean below = from < tokens.length && tokens.bytes.at(from) == '-';
                int digits = below ? from + 1 : from;
                int to = tokens.pastDigits(digits);
                int many = to - digits;
                if (many < 1 || many > MOST_MARK_DIGITS || to < tokens.length && !Tokens.isBlank(tokens.bytes.at(to))) {
                    return false;
                }
                int number = tokens.numberFrom(digits, to);
                row.put(i, below ? -number : number);
                from = tokens.pastBlanks(to);
            }
            return from >= tokens.length;
        }
    }
}
