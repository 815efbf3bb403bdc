import java.util.ArrayList;
import java.util.List;

/**
 * Each number of each call of the face: the first and the last that are taken, the next ones on both sides and
 * numbers far beyond, which are refused and do nothing. One row of the table for a call, one pair for a number.
 */
public final class BoundsTest {
    private static final Check CHECK = new Check("BoundsTest");
    private static final Twin SOME = new Twin(CHECK, Twin::some);
    private static final Twin NEW = new Twin(CHECK, b -> { });
    private static final int NO_AMOUNT = -2_000_000_000;
    private static final int FACE = 33;
    private static int rows;

    /** A call with its numbers. */
    private interface Made {
        long on(PetrolBoard b, int[] n);
    }

    public static void main(String[] args) {
        days();
        orders();
        coupons();
        stations();
        loads();
        journeys();
        deals();
        CHECK.promise("a row for each call that has a number to be told");
        CHECK.due(rows, FACE);
        CHECK.finish();
    }

    private static int[] good(int... n) {
        return n;
    }

    private static int[] from(int least, int most) {
        return new int[] {least, most};
    }

    private static void row(int promise, String sentence, long refused, Made made, int[] good, int[]... bounds) {
        CHECK.says(promise, sentence);
        rows++;
        for (int k = 0; k < bounds.length; k++) {
            for (int edge : bounds[k]) {
                int[] n = with(good, k, edge);
                CHECK.due(made.on(SOME.board(), n) == refused, false);
            }
            for (int beyond : beyond(bounds[k][0], bounds[k][1])) {
                int[] n = with(good, k, beyond);
                SOME.idle(b -> made.on(b, n), refused);
            }
        }
        for (int wild : new int[] {Integer.MIN_VALUE, Integer.MAX_VALUE, -1_000_000_000}) {
            int[] n = good.clone();
            java.util.Arrays.fill(n, wild);
            SOME.idle(b -> made.on(b, n), refused);
            NEW.idle(b -> made.on(b, n), refused);
        }
    }

    private static int[] with(int[] good, int k, int n) {
        int[] all = good.clone();
        all[k] = n;
        return all;
    }

    /** What lies outside of the bounds: next to them, far off, and what would be inside if bits were lost. */
    private static List<Integer> beyond(int least, int most) {
        List<Integer> all = new ArrayList<>();
        int[] near = {least - 1, least - 2, most + 1, most + 2};
        int[] far = {Integer.MIN_VALUE, Integer.MIN_VALUE + 1, Integer.MAX_VALUE, Integer.MAX_VALUE - 1,
            -1_000_000_000, 1_000_000_000, least - 256, most + 65_536, least + Integer.MIN_VALUE,
            -least - 1, 1 << 30};
        for (int[] some : new int[][] {near, far}) {
            for (int n : some) {
                if (n < least || n > most) {
                    all.add(n);
                }
            }
        }
        return all;
    }

    private static void days() {
        row(2, "false: it isn't, above 719", 0, (b, n) -> Twin.bit(b.day(n[0])), good(36), from(36, 719));
        row(3, "NONE, doing nothing: not as told", -1, (b, n) -> b.holder(n[0], n[1], n[2], n[3], n[4]),
                good(3, 3, 3, 3, 3), from(1, 9), from(0, 9), from(1, 8), from(0, 999), from(0, 99));
        row(4, "NONE, doing nothing: not as told", -1, (b, n) -> b.note(n[0], n[1], n[2]),
                good(1, 1, 1), from(0, 2), from(0, 4), from(0, 719));
        row(5, "UNDONE: true; false: none such", 0, (b, n) -> Twin.bit(b.undo(n[0])), good(0), from(0, 2));
        row(6, "as KNOWN by another one (0 to 719). NONE: none such", -1, (b, n) -> b.classOf(n[0], n[1], n[2]),
                good(0, 0, 0), from(0, 2), from(0, 719), from(0, 719));
    }

    private static void orders() {
        row(8, "-2, doing nothing: n is below 0 or more than there are, no such MONTH", -2,
                (b, n) -> b.orders(n[0], n[1]), good(8, 0), from(0, 20), from(0, 23));
        row(10, "4 DOUBT, 5 which ORDERS (NONE). NONE: none such", -1, (b, n) -> b.rule(n[0], n[1], n[2]),
                good(0, 0, 0), from(0, 23), from(0, 719), from(0, 5));
        row(11, "UNITS. NONE: none such", -1, (b, n) -> b.units(n[0], n[1], n[2]),
                good(0, 0, 0), from(0, 2), from(0, 23), from(0, 719));
    }

    private static void coupons() {
        row(12, "NONE, doing nothing: none such, another MONTH", -1, (b, n) -> b.issue(n[0], n[1]),
                good(2, 1), from(0, 2), from(1, 2));
        row(13, "false, doing nothing: no such coupon or HOLDER", 0, (b, n) -> Twin.bit(b.lend(n[0], n[1])),
                good(2, 2), from(2, 4), from(1, 2));
        row(14, "NONE: no such coupon", -1, (b, n) -> b.owner(n[0]), good(2400), from(2400, 2406));
        row(16, "NONE, doing nothing: not as told", -1, (b, n) -> b.pour(n[0], n[1], n[2]),
                good(0, 0, 0), from(0, 1), from(0, 2), from(0, 99_999));
        row(17, "NONE: no such STATION", -1, (b, n) -> b.handIn(n[0]), good(0), from(0, 1));
        row(18, "6 whether it was dyed (1). NONE: none such", -1, (b, n) -> b.poured(n[0], n[1]),
                good(0, 0), from(0, 4), from(0, 6));
        row(19, "FOUND: 1, 0. NONE: none such", -1, (b, n) -> b.found(n[0]), good(0), from(0, 2));
    }

    private static void stations() {
        row(20, "NONE, doing nothing: not as told", -1, (b, n) -> b.deliver(n[0], n[1]),
                good(0, 1), from(0, 1), from(1, 100_000));
        row(21, "NONE, doing nothing: not as told", -1, (b, n) -> b.dip(n[0], n[1]),
                good(0, 1), from(0, 1), from(0, 200_000));
        row(22, "-2,000,000,000: none such", NO_AMOUNT, (b, n) -> b.in(n[0], n[1]),
                good(0, 0), from(0, 1), from(0, 1));
        row(23, "NONE: none such; -3: they CAN'T BE", -1, (b, n) -> b.sums(n[0], n[1], n[2], n[3]),
                good(0, 0, 2, 0), from(0, 1), from(0, 1), from(1, 2), from(0, 1));
        row(24, "The LEVEL (0 to 300,000) of place k (0 to 29) of the ROW is told: true; false: not as told", 0,
                (b, n) -> Twin.bit(b.level(n[0], n[1])), good(0, 0), from(0, 29), from(0, 300_000));
        row(25, "NONE: none such, not such LEVELS", -1, (b, n) -> b.judged(n[0], n[1], n[2]),
                good(0, 0, 2), from(0, 1), from(0, 1), from(1, 2));
    }

    private static void loads() {
        row(26, "NONE, doing nothing: not as told", -1, (b, n) -> b.port(n[0]), good(0), from(0, 50));
        row(27, "A STATION wants so many loads: true; false: not as told", 0,
                (b, n) -> Twin.bit(b.want(n[0], n[1])), good(0, 0), from(0, 1), from(0, 20));
        row(28, "A ROAD (miles 0: none): true; false: not as told", 0,
                (b, n) -> Twin.bit(b.road(n[0], n[1], n[2])), good(0, 0, 1), from(0, 1), from(0, 1), from(0, 999));
        row(29, "loads (what 0), miles (1). NONE: none such", -1, (b, n) -> b.flow(n[0] - 1, n[1]),
                good(0, 0), from(0, 2), from(0, 1));
    }

    private static void journeys() {
        row(30, "NONE, doing nothing: not as told (DAY TODAY to 719, unlike TOWNS)", -1,
                (b, n) -> b.ask(n[0], n[1], n[2], n[3], n[4], n[5]), good(0, 1, 1, 0, 60, 12),
                from(0, 2), from(1, 500), from(1, 8), from(0, 4), from(35, 719), from(1, 98));
        row(31, "NONE, doing nothing: none such, no such reason", -1, (b, n) -> b.appeal(n[0], n[1]),
                good(0, 0), from(0, 3), from(0, 4));
        row(32, "100 + k: the k-th LIKE (by numbers). NONE: none such", -1, (b, n) -> b.journey(n[0], n[1]),
                good(1, 0), from(0, 3), from(0, 7));
        row(33, "people (3). NONE: none such", -1, (b, n) -> b.pool(n[0], n[1], n[2]),
                good(60, 12, 0), from(60, 60), from(12, 12), from(0, 3));
    }

    private static void deals() {
        row(34, "whether it STAYS (1). NONE: none such", -1, (b, n) -> b.other(n[0], n[1], n[2], n[3]),
                good(0, 0, 0, 0), from(0, 2), from(0, 23), from(0, 2), from(0, 1));
        row(35, "How many STAY by a way for a MONTH. NONE: none such", -1, (b, n) -> b.stays(n[0], n[1]),
                good(0, 0), from(0, 2), from(0, 23));
        row(36, "FORETOLD (n 1 to 12, MONTHS up to 23). -2,000,000,000: none such", NO_AMOUNT,
                (b, n) -> b.foretold(n[0], true), good(1), from(1, 12));
        row(37, "12 bytes on the tape. NONE for others", -1, (b, n) -> b.count(n[0]), good(0), from(0, 12));
    }
}
