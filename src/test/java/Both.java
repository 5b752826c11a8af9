import java.nio.charset.StandardCharsets;
import java.util.ArrayList;
import java.util.Arrays;
import java.util.List;

/** The program and the oracle side by side: each call is made of both, and the answers compared. */
final class Both {
    private final TroupeSums program = new TroupeSums();
    private final Oracle oracle = new Oracle();
    private final Check check;
    private final String title;
    private final List<String> told = new ArrayList<>();
    int calls = 0;

    Both(Check check, String title) {
        this.check = check;
        this.title = title;
    }

    /** The answer due. */
    long call(String name, int... args) {
        calls++;
        if (calls > 512) {
            throw new IllegalStateException("an object is used for at most 512 calls");
        }
        long due = ask(name, args);
        long got = answer(name, args);
        String call = name + Arrays.toString(args);
        told.add(call);
        if (got != due) {
            String run = String.join(", ", told.subList(Math.max(0, told.size() - 60), told.size()));
            check.same(title + ": " + call + " (run: " + run + ")", got, due);
        } else {
            check.right();
        }
        return due;
    }

    int callsFor(byte[] text) {
        return (text.length + 19) / 20 + 2;
    }

    /** Puts a text of 1 to 700 bytes on an empty tape. */
    void put(byte[] text) {
        for (int[] five : fives(text)) {
            call("feed", five);
        }
        call("end", text.length);
    }

    void put(String text) {
        put(text.getBytes(StandardCharsets.ISO_8859_1));
    }

    static List<int[]> fives(byte[] text) {
        List<int[]> result = new ArrayList<>();
        for (int from = 0; from < text.length; from += 20) {
            byte[] twenty = Arrays.copyOfRange(text, from, from + 20);
            java.nio.ByteBuffer buffer = java.nio.ByteBuffer.wrap(twenty);
            int[] five = new int[5];
            for (int i = 0; i < 5; i++) {
                five[i] = buffer.getInt();
            }
            result.add(five);
        }
        return result;
    }

    private long answer(String name, int[] a) {
        switch (name) {
            case "feed": return program.feed(a[0], a[1], a[2], a[3], a[4]);
            case "end": return program.end(a[0]);
            case "troupe": return program.troupe();
            case "fault": return program.fault(a[0]);
            case "about": return program.about(a[0]);
            case "moves": return program.moves(a[0], a[1]);
            case "times": return program.times(a[0], a[1]);
            case "order": return program.order(a[0]);
            case "makesOf": return program.makesOf(a[0]);
            case "sortOf": return program.sortOf(a[0]);
            case "sort": return program.sort(a[0], a[1]);
            case "within": return program.within(a[0], a[1]);
            case "mark": return program.mark(a[0], a[1]);
            case "product": return program.product(a[0], a[1], a[2]);
            case "residue": return program.residue(a[0], a[1]);
            case "block": return program.block(a[0], a[1]);
            case "keeper": return program.keeper(a[0]);
            case "orbit": return program.orbit(a[0]);
            case "coset": return program.coset(a[0], a[1]);
            case "takes": return program.takes(a[0], a[1], a[2]);
            case "moebius": return program.moebius(a[0]);
            case "mixed": return program.mixed(a[0]);
            case "centre": return program.centre(a[0]);
            case "pairs": return program.pairs(a[0], a[1]);
            case "alike": return program.alike();
            case "meet": return program.meet(a[0], a[1]);
            case "join": return program.join(a[0], a[1]);
            case "orders": return program.orders(a[0]);
            case "likes": return program.likes(a[0]);
            case "peak": return program.peak(a[0], a[1], a[2]);
            case "local": return program.local(a[0], a[1], a[2], a[3]);
            case "units": return program.units();
            case "unit": return program.unit(a[0], a[1]);
            case "named": return program.named(a[0], a[1]);
            case "has": return program.has(a[0]);
            case "marked": return program.marked(a[0]);
            case "character": return program.character(a[0]);
            case "parts": return program.parts();
            case "congruence": return program.congruence(a[0]);
            case "is": return program.is(a[0]);
            case "makes": return program.makes();
            case "take": return program.take(a[0], a[1]);
            case "marks": return program.marks();
            case "uses": return program.uses(a[0]);
            case "grows": return program.grows(a[0], a[1], a[2]);
            case "undo": return program.undo();
            default: throw new IllegalArgumentException(name);
        }
    }

    private long ask(String name, int[] a) {
        switch (name) {
            case "feed": return oracle.feed(a[0], a[1], a[2], a[3], a[4]);
            case "end": return oracle.end(a[0]);
            case "troupe": return oracle.troupe();
            case "fault": return oracle.fault(a[0]);
            case "about": return oracle.about(a[0]);
            case "moves": return oracle.moves(a[0], a[1]);
            case "times": return oracle.times(a[0], a[1]);
            case "order": return oracle.order(a[0]);
            case "makesOf": return oracle.makesOf(a[0]);
            case "sortOf": return oracle.sortOf(a[0]);
            case "sort": return oracle.sort(a[0], a[1]);
            case "within": return oracle.within(a[0], a[1]);
            case "mark": return oracle.mark(a[0], a[1]);
            case "product": return oracle.product(a[0], a[1], a[2]);
            case "residue": return oracle.residue(a[0], a[1]);
            case "block": return oracle.block(a[0], a[1]);
            case "keeper": return oracle.keeper(a[0]);
            case "orbit": return oracle.orbit(a[0]);
            case "coset": return oracle.coset(a[0], a[1]);
            case "takes": return oracle.takes(a[0], a[1], a[2]);
            case "moebius": return oracle.moebius(a[0]);
            case "mixed": return oracle.mixed(a[0]);
            case "centre": return oracle.centre(a[0]);
            case "pairs": return oracle.pairs(a[0], a[1]);
            case "alike": return oracle.alike();
            case "meet": return oracle.meet(a[0], a[1]);
            case "join": return oracle.join(a[0], a[1]);
            case "orders": return oracle.orders(a[0]);
            case "likes": return oracle.likes(a[0]);
            case "peak": return oracle.peak(a[0], a[1], a[2]);
            case "local": return oracle.local(a[0], a[1], a[2], a[3]);
            case "units": return oracle.units();
            case "unit": return oracle.unit(a[0], a[1]);
            case "named": return oracle.named(a[0], a[1]);
            case "has": return oracle.has(a[0]);
            case "marked": return oracle.marked(a[0]);
            case "character": return oracle.character(a[0]);
            case "parts": return oracle.parts();
            case "congruence": return oracle.congruence(a[0]);
            case "is": return oracle.is(a[0]);
            case "makes": return oracle.makes();
            case "take": return oracle.take(a[0], a[1]);
            case "marks": return oracle.marks();
            case "uses": return oracle.uses(a[0]);
            case "grows": return oracle.grows(a[0], a[1], a[2]);
            case "undo": return oracle.undo();
            default: throw new IllegalArgumentException(name);
        }
    }

}
