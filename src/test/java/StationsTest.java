import java.util.Random;

/** Promises 20 to 25: DELIVERIES, DIPS, IN, SUMS and the ROW. */
public final class StationsTest {
    private static final Check CHECK = new Check("StationsTest");

    public static void main(String[] args) {
        deliver();
        dip();
        in();
        inByVerdicts();
        inByWaste();
        inAtTheBounds();
        sums();
        sumsWithDoubt();
        sumsAgainstAllLevels();
        level();
        judged();
        judgedUntold();
        CHECK.finish();
    }

    private static PetrolBoard board(String orders, int stations) {
        PetrolBoard b = Check.ordered(orders);
        b.holder(1, 0, 1, 0, 0);
        for (int k = 0; k < stations; k++) {
            b.station();
        }
        return b;
    }

    private static void deliver() {
        CHECK.promise("promise 20");
        PetrolBoard b = board("", 0);
        CHECK.due(b.deliver(0, 1), -1);
        b.station();
        b.station();
        CHECK.due(b.deliver(-1, 1), -1);
        CHECK.due(b.deliver(2, 1), -1);
        CHECK.due(b.deliver(0, 0), -1);
        CHECK.due(b.deliver(0, 100_001), -1);
        CHECK.due(b.deliver(0, Integer.MIN_VALUE), -1);
        CHECK.due(b.deliver(0, 1), 1);
        for (int k = 1; k < 30; k++) {
            CHECK.due(b.deliver(0, 100_000), 1 + 100_000 * k);
        }
        CHECK.due(b.deliver(0, 1), -1);
        CHECK.due(b.deliver(1, 9), 9);
    }

    private static void dip() {
        CHECK.promise("promise 21");
        PetrolBoard b = board("", 0);
        CHECK.due(b.dip(0, 1), -1);
        b.station();
        b.station();
        CHECK.due(b.dip(-1, 1), -1);
        CHECK.due(b.dip(2, 1), -1);
        CHECK.due(b.dip(0, -1), -1);
        CHECK.due(b.dip(0, 200_001), -1);
        CHECK.due(b.dip(0, 0), 0);
        for (int k = 1; k < 30; k++) {
            CHECK.due(b.dip(0, 200_000), k);
        }
        CHECK.due(b.dip(0, 0), -1);
        CHECK.due(b.dip(1, 7), 0);
        CHECK.due(b.in(0, 28), 0);
        CHECK.due(b.in(0, 29), -2_000_000_000);
        CHECK.due(b.sums(0, 0, 29, 0), -3);
        CHECK.due(b.sums(0, 1, 29, 0), 0);
    }

    private static void in() {
        CHECK.promise("promise 22");
        PetrolBoard b = board("", 2);
        CHECK.due(b.in(0, 0), -2_000_000_000);
        b.deliver(0, 1000);
        b.pour(0, 0, 99_999);
        b.dip(0, 0);
        CHECK.due(b.in(0, 0), -2_000_000_000);
        b.deliver(0, 300);
        b.deliver(1, 7000);
        b.pour(0, 0, 99_999);
        b.pour(1, 0, 99_999);
        b.deliver(0, 20);
        b.pour(0, 0, 99_999);
        b.dip(0, 0);
        b.deliver(0, 5);
        b.dip(0, 0);
        // All on one DAY: what comes between counts as it came.
        CHECK.due(b.in(0, 0), 300);
        CHECK.due(b.in(0, 1), 5);
        CHECK.due(b.in(0, 2), -2_000_000_000);
        CHECK.due(b.in(0, -1), -2_000_000_000);
        CHECK.due(b.in(0, Integer.MAX_VALUE), -2_000_000_000);
        CHECK.due(b.in(-1, 0), -2_000_000_000);
        CHECK.due(b.in(2, 0), -2_000_000_000);
        CHECK.due(b.in(1, 0), -2_000_000_000);
    }

    private static void inByVerdicts() {
        CHECK.promise("promise 22, not what was JUDGED 1, 2, 4");
        PetrolBoard b = board("units 8;", 1);
        b.holder(1, 0, 1, 0, 0);
        b.issue(0, 0);
        b.issue(0, 1);
        b.dip(0, 0);
        b.pour(0, 0, 0);
        b.dip(0, 0);
        b.pour(0, 0, 50);
        b.dip(0, 0);
        b.pour(0, 0, 0);
        b.dip(0, 0);
        b.pour(0, 0, 100);
        b.dip(0, 0);
        b.pour(0, 1, 1);
        b.dip(0, 0);
        for (int k = 0; k < 5; k++) {
            CHECK.due(b.in(0, k), -10);
        }
        b.handIn(0);
        int[] judged = {0, 1, 2, 3, 4};
        int[] in = {-10, 0, 0, -10, 0};
        for (int k = 0; k < 5; k++) {
            CHECK.due(b.poured(k, 5), judged[k]);
            CHECK.due(b.in(0, k), in[k]);
        }
    }

    private static void inByWaste() {
        CHECK.promise("promise 22, WASTE by ORDERS of the first DIP's MONTH");
        PetrolBoard b = board("waste 3;", 1);
        Check.tell(b, "waste 100;", 1);
        b.day(10);
        b.dip(0, 0);
        b.day(40);
        b.dip(0, 0);
        b.deliver(0, 5000);
        b.day(42);
        b.dip(0, 0);
        b.dip(0, 0);
        CHECK.due(b.in(0, 0), -90);
        CHECK.due(b.in(0, 1), 4800);
        CHECK.due(b.in(0, 2), 0);
        // As KNOWN TODAY: ORDERS told later change what was.
        Check.tell(b, "waste 1;", 0);
        CHECK.due(b.in(0, 0), -30);
        CHECK.due(b.in(0, 1), 4800);
    }

    private static void inAtTheBounds() {
        CHECK.promise("promise 22, the greatest numbers");
        PetrolBoard b = board("waste 999999;worth 999999;", 1);
        b.dip(0, 200_000);
        for (int k = 0; k < 300; k++) {
            b.pour(0, 0, 1);
        }
        b.day(719);
        b.dip(0, 0);
        CHECK.due(b.in(0, 0), -999_999 * 719 - 999_999 * 300);
        CHECK.due(b.sums(0, 0, 1, 1), -3);
    }

    private static void sums() {
        CHECK.promise("promise 23");
        PetrolBoard b = board("doubt 0;", 1);
        b.dip(0, 100);
        CHECK.due(b.sums(0, 0, 0, 0), -1);
        b.dip(0, 90);
        b.deliver(0, 5);
        b.dip(0, 95);
        b.dip(0, 96);
        CHECK.due(b.sums(0, 0, 1, 0), 10);
        CHECK.due(b.sums(0, 0, 1, 1), 10);
        CHECK.due(b.sums(0, 1, 2, 0), 0);
        CHECK.due(b.sums(0, 0, 2, 1), 10);
        CHECK.due(b.sums(0, 2, 3, 0), -3);
        CHECK.due(b.sums(0, 0, 3, 1), -3);
        CHECK.due(b.sums(0, 1, 0, 0), -1);
        CHECK.due(b.sums(0, 1, 1, 0), -1);
        CHECK.due(b.sums(0, -1, 1, 0), -1);
        CHECK.due(b.sums(0, 0, 4, 0), -1);
        CHECK.due(b.sums(0, 0, Integer.MAX_VALUE, 0), -1);
        CHECK.due(b.sums(0, Integer.MIN_VALUE, 1, 0), -1);
        CHECK.due(b.sums(0, 0, 1, -1), -1);
        CHECK.due(b.sums(0, 0, 1, 2), -1);
        CHECK.due(b.sums(1, 0, 1, 0), -1);
        CHECK.due(b.sums(-1, 0, 1, 0), -1);
        // Of what is none such, none: not "can't be".
        CHECK.due(b.sums(0, 2, 3, 2), -1);
    }

    private static void sumsWithDoubt() {
        CHECK.promise("promise 23, DOUBT");
        PetrolBoard b = board("doubt 30;", 1);
        b.dip(0, 10);
        b.dip(0, 50);
        b.day(30);
        Check.tell(b, "doubt 5;", 1);
        b.dip(0, 40);
        // LEVELS 0 to 40, 20 to 80, 35 to 45.
        CHECK.due(b.sums(0, 0, 1, 0), 0);
        CHECK.due(b.sums(0, 0, 1, 1), 20);
        CHECK.due(b.sums(0, 1, 2, 0), 0);
        CHECK.due(b.sums(0, 1, 2, 1), 45);
        CHECK.due(b.sums(0, 0, 2, 0), 0);
        CHECK.due(b.sums(0, 0, 2, 1), 5);
        Check.tell(b, "doubt 1;", 0);
        CHECK.due(b.sums(0, 0, 1, 0), -3);
        CHECK.due(b.sums(0, 1, 2, 0), 4);
        CHECK.due(b.sums(0, 1, 2, 1), 16);
        PetrolBoard usual = board("", 1);
        usual.dip(0, 200_000);
        usual.dip(0, 0);
        CHECK.due(usual.sums(0, 0, 1, 0), 199_960);
        CHECK.due(usual.sums(0, 0, 1, 1), 200_020);
        PetrolBoard much = board("doubt 999999;", 1);
        much.dip(0, 200_000);
        much.dip(0, 0);
        CHECK.due(much.sums(0, 0, 1, 0), 0);
        CHECK.due(much.sums(0, 0, 1, 1), 1_199_999);
    }

    private static void sumsAgainstAllLevels() {
        CHECK.promise("promise 23, against all LEVELS tried");
        Random random = new Random(5);
        for (int run = 0; run < 400; run++) {
            int doubt = random.nextInt(4);
            PetrolBoard b = board("doubt " + doubt + ";waste 1;", 1);
            int number = 2 + random.nextInt(4);
            int[] told = new int[number];
            int[] in = new int[number];
            for (int k = 0; k < number; k++) {
                if (k > 0 && random.nextInt(2) == 0) {
                    int delivered = 1 + random.nextInt(6);
                    b.deliver(0, delivered);
                    in[k - 1] += delivered;
                }
                if (k > 0 && random.nextInt(3) == 0) {
                    b.day(b.count(0) + 2);
                    in[k - 1] -= 2;
                }
                told[k] = random.nextInt(7);
                b.dip(0, told[k]);
            }
            long[] best = {Long.MAX_VALUE, Long.MIN_VALUE};
            tryLevels(told, in, doubt, 0, 0, 0, best);
            boolean none = best[0] > best[1];
            CHECK.due(b.sums(0, 0, number - 1, 0), none ? -3 : best[0]);
            CHECK.due(b.sums(0, 0, number - 1, 1), none ? -3 : best[1]);
        }
    }

    private static void tryLevels(int[] told, int[] in, int doubt, int k, int before, long sum, long[] best) {
        if (k == told.length) {
            best[0] = Math.min(best[0], sum);
            best[1] = Math.max(best[1], sum);
            return;
        }
        for (int level = Math.max(0, told[k] - doubt); level <= told[k] + doubt; level++) {
            long black = k == 0 ? 0 : in[k - 1] + before - level;
            if (black >= 0) {
                tryLevels(told, in, doubt, k + 1, level, sum + black, best);
            }
        }
    }

    private static void level() {
        CHECK.promise("promise 24");
        PetrolBoard b = new PetrolBoard();
        CHECK.due(b.level(0, 0), true);
        CHECK.due(b.level(29, 300_000), true);
        CHECK.due(b.level(-1, 0), false);
        CHECK.due(b.level(30, 0), false);
        CHECK.due(b.level(0, -1), false);
        CHECK.due(b.level(0, 300_001), false);
        CHECK.due(b.level(Integer.MAX_VALUE, Integer.MIN_VALUE), false);
    }

    private static void judged() {
        CHECK.promise("promise 25");
        PetrolBoard b = board("doubt 10;", 2);
        b.dip(0, 100);
        b.deliver(0, 50);
        b.dip(0, 130);
        b.dip(0, 125);
        int[] row = {95, 140, 130};
        for (int k = 0; k < row.length; k++) {
            b.level(k, row[k]);
        }
        CHECK.due(b.judged(0, 0, 1), 5);
        CHECK.due(b.judged(0, 0, 2), 15);
        // Places 0 on are for DIP i on.
        CHECK.due(b.judged(0, 1, 2), -1);
        b.level(0, 120);
        b.level(1, 115);
        CHECK.due(b.judged(0, 1, 2), 5);
        b.level(1, 120);
        CHECK.due(b.judged(0, 1, 2), 0);
        b.level(1, 121);
        CHECK.due(b.judged(0, 1, 2), -1);
        b.level(0, 140);
        b.level(1, 135);
        CHECK.due(b.judged(0, 1, 2), 5);
        b.level(0, 141);
        CHECK.due(b.judged(0, 1, 2), -1);
        b.level(0, 110);
        b.level(1, 120);
        CHECK.due(b.judged(0, 0, 1), 40);
        b.level(1, 119);
        CHECK.due(b.judged(0, 0, 1), -1);
        // What is told wrongly changes nothing.
        b.level(1, 120);
        b.level(1, 300_001);
        CHECK.due(b.judged(0, 0, 1), 40);
        CHECK.due(b.judged(0, 1, 0), -1);
        CHECK.due(b.judged(0, 1, 1), -1);
        CHECK.due(b.judged(0, -1, 1), -1);
        CHECK.due(b.judged(0, 0, 3), -1);
        CHECK.due(b.judged(1, 0, 1), -1);
        CHECK.due(b.judged(2, 0, 1), -1);
        CHECK.due(b.judged(-1, 0, 1), -1);
        // LEVELS as they can be by the ORDERS KNOWN TODAY.
        Check.tell(b, "doubt 9;", 0);
        CHECK.due(b.judged(0, 0, 1), -1);
    }

    private static void judgedUntold() {
        CHECK.promise("promise 25, a place never told");
        PetrolBoard b = board("", 1);
        b.dip(0, 0);
        b.dip(0, 0);
        CHECK.due(b.judged(0, 0, 1), -1);
        b.level(0, 3);
        CHECK.due(b.judged(0, 0, 1), -1);
        b.level(1, 0);
        CHECK.due(b.judged(0, 0, 1), 3);
        // A place told tells nothing of those around it.
        PetrolBoard gaps = board("", 1);
        for (int k = 0; k < 3; k++) {
            gaps.dip(0, 0);
        }
        gaps.level(1, 0);
        CHECK.due(gaps.judged(0, 0, 1), -1);
        CHECK.due(gaps.judged(0, 0, 2), -1);
        gaps.level(0, 0);
        CHECK.due(gaps.judged(0, 0, 1), 0);
        CHECK.due(gaps.judged(0, 0, 2), -1);
        gaps.level(2, 0);
        CHECK.due(gaps.judged(0, 0, 2), 0);
    }
}
