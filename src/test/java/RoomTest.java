import com.sun.management.ThreadMXBean;
import java.lang.management.ManagementFactory;
import java.nio.charset.StandardCharsets;
import java.util.List;

/** How much room an object takes, and that its calls take none: a run's calls live in one room. */
public final class RoomTest {
    private static final Check CHECK = new Check("RoomTest");
    private static final String TEXT = "places 6; move 1 2 3 0 4 5; move 2 1 0 3 4 5; move 0 1 2 3 5 4; let a = (sort 3 + 2) ^ 4 * sort 5;"
            + "let b = a * a - sort 25 * (sort 26 - 1) ^ 3;";
    private static final List<int[]> FIVES = Both.fives(TEXT.getBytes(StandardCharsets.ISO_8859_1));
    private static long sum = 0;

    private static long allocated() {
        return ((ThreadMXBean) ManagementFactory.getThreadMXBean()).getCurrentThreadAllocatedBytes();
    }

    private static void tell(TroupeSums x) {
        for (int i = 0; i < FIVES.size(); i++) {
            int[] five = FIVES.get(i);
            x.feed(five[0], five[1], five[2], five[3], five[4]);
        }
        x.end(TEXT.length());
        sum += x.troupe();
    }

    private static void use(TroupeSums x) {
        tell(x);
        tell(x);
        for (int i = 0; i < 27; i++) {
            sum += x.product(i, i, 0) + x.residue(i, 2) + x.moebius(i) + x.mixed(i) + x.peak(26, i, 0) + x.local(2, i, 0, 1)
                    + x.unit(1000, i) + x.congruence(i);
        }
        for (int n = 0; n < 20; n++) {
            sum += x.take(2, 3) + x.uses(1) + x.grows(2, 3, 4) + x.undo() + x.is(1) + x.units();
        }
        x.feed(0x28286131, 0x312b6220, 0x20202020, 0x20202020, 0x20202020);
        x.makes();
        x.feed(0x31203120, 0x20202020, 0x20202020, 0x20202020, 0x20202020);
        x.marks();
    }

    public static void main(String[] args) {
        allocated();
        // The first object loads the classes, too.
        sum += new TroupeSums().about(0);
        long before = allocated();
        TroupeSums x = new TroupeSums();
        long object = allocated() - before;
        use(x);
        before = allocated();
        use(x);
        long calls = allocated() - before;
        System.out.println("RoomTest: " + object + " bytes an object, " + calls + " bytes its calls (" + sum + ")");
        CHECK.holds("an object takes " + object + " bytes", object < 100_000);
        CHECK.holds("calls take " + calls + " bytes", calls < 2_000);
        CHECK.finish();
    }
}
