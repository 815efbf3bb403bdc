import java.util.Arrays;
import java.util.Random;

/** The sentences of term 4 and of promises 20 to 29 (STATIONS, LEVELS, LOADS) that name a bound, one test for each. */
public final class Term4Test {
    private static final Check CHECK = new Check("Term4Test");
    private static final int NO_AMOUNT = -2_000_000_000;

    public static void main(String[] args) {
        stationsUpTo10();
        deliveries();
        dips();
        betweenADipAndTheNext();
        asTheyCome();
        notThatJudged();
        wasteByTheDays();
        wasteOfTheFirstOnesMonth();
        greatestIn();
        withinDoubt();
        levelsFromNought();
        doubtOfItsMonth();
        blackFromNought();
        leastAndMost();
        cannotBe();
        sumsOfTheGreatest();
        rowOfLevels();
        judgedAsTold();
        judgedOf30();
        ports();
        wants();
        roads();
        flowAsManyAsCan();
        flowFewestMiles();
        flowOneShut();
        flowAgainstStates();
        CHECK.finish();
    }

    private static PetrolBoard board(String orders) {
        PetrolBoard b = Check.ordered(orders);
        b.holder(1, 0, 1, 0, 0);
        b.station();
        return b;
    }

    private static void stationsUpTo10() {
        CHECK.saysOfTerm(4, "STATIONS, up to 10");
        PetrolBoard b = new PetrolBoard();
        for (int s = 0; s < 10; s++) {
            CHECK.due(b.dip(s, 0), -1);
            CHECK.due(b.station(), s);
            CHECK.due(b.dip(s, 0), 0);
            CHECK.due(b.count(5), s + 1);
        }
        CHECK.due(b.station(), -1);
        CHECK.due(b.count(5), 10);
        CHECK.due(b.dip(10, 0), -1);
    }

    private static void deliveries() {
        CHECK.saysOfTerm(4, "DELIVERIES (tenths, 1 to 100,000 each) and DIPS (0 to 200,000, up to 30 each)");
        CHECK.says(20, "DELIVERED: all so far there. NONE, doing nothing: not as told, 30 are.");
        PetrolBoard b = board("");
        b.station();
        CHECK.due(b.deliver(0, 0), -1);
        CHECK.due(b.deliver(0, 100_001), -1);
        for (int k = 1; k <= 30; k++) {
            CHECK.due(b.deliver(0, 100_000), 100_000 * k);
            CHECK.due(b.deliver(0, 0), -1);
        }
        CHECK.due(b.deliver(0, 1), -1);
        CHECK.due(b.deliver(0, 100_000), -1);
        // Each STATION has its own.
        CHECK.due(b.deliver(1, 1), 1);
        CHECK.due(b.deliver(1, 2), 3);
        b.day(719);
        CHECK.due(b.deliver(1, 100_000), 100_003);
        CHECK.due(b.deliver(2, 1), -1);
    }

    private static void dips() {
        CHECK.says(21, "A DIP: its number there. NONE, doing nothing: not as told, 30 are.");
        PetrolBoard b = board("");
        b.station();
        CHECK.due(b.dip(0, -1), -1);
        CHECK.due(b.dip(0, 200_001), -1);
        for (int k = 0; k < 30; k++) {
            CHECK.due(b.dip(0, k % 2 * 200_000), k);
            CHECK.due(b.dip(0, -1), -1);
            CHECK.due(b.in(0, k), NO_AMOUNT);
            CHECK.due(b.in(0, k - 1), k > 0 ? 0 : NO_AMOUNT);
        }
        CHECK.due(b.dip(0, 0), -1);
        CHECK.due(b.dip(1, 0), 0);
        CHECK.due(b.dip(1, 200_000), 1);
    }

    private static void betweenADipAndTheNext() {
        CHECK.says(22, "IN between the k-th DIP and the next. -2,000,000,000: none such.");
        PetrolBoard b = board("");
        b.station();
        CHECK.due(b.in(0, 0), NO_AMOUNT);
        b.dip(0, 5);
        CHECK.due(b.in(0, 0), NO_AMOUNT);
        b.deliver(0, 7);
        CHECK.due(b.in(0, 0), NO_AMOUNT);
        b.dip(0, 5);
        CHECK.due(b.in(0, 0), 7);
        CHECK.due(b.in(0, 1), NO_AMOUNT);
        CHECK.due(b.in(0, -1), NO_AMOUNT);
        CHECK.due(b.in(1, 0), NO_AMOUNT);
        CHECK.due(b.in(2, 0), NO_AMOUNT);
        CHECK.due(b.in(-1, 0), NO_AMOUNT);
        b.dip(1, 0);
        CHECK.due(b.in(1, 0), NO_AMOUNT);
    }

    private static void asTheyCome() {
        CHECK.saysOfTerm(4, "come as they come. Between two DIPS, the k-th and the next: IN");
        PetrolBoard b = board("");
        b.station();
        b.deliver(0, 1000);
        b.pour(0, 0, 1);
        b.dip(0, 0);
        b.deliver(0, 200);
        b.deliver(1, 5000);
        b.pour(0, 0, 1);
        b.pour(1, 0, 1);
        b.deliver(0, 40);
        b.dip(0, 0);
        b.dip(0, 0);
        b.pour(0, 0, 1);
        b.pour(0, 0, 1);
        b.dip(0, 0);
        b.deliver(0, 9);
        // On one DAY, all of it: ahead of the first DIP, between two, and behind the last.
        CHECK.due(b.in(0, 0), 230);
        CHECK.due(b.in(0, 1), 0);
        CHECK.due(b.in(0, 2), -20);
        CHECK.due(b.in(0, 3), NO_AMOUNT);
    }

    private static void notThatJudged() {
        CHECK.saysOfTerm(4, "what was DELIVERED less what was POURED (not that JUDGED 1, 2, 4)");
        PetrolBoard b = board("units 9;worth 7;");
        b.holder(1, 0, 1, 0, 0);
        b.station();
        b.issue(0, 0);
        b.issue(0, 1);
        int[] holders = {0, 0, 0, 0, 1};
        int[] coupons = {0, 50, 0, 100, 1};
        b.dip(0, 0);
        for (int k = 0; k < holders.length; k++) {
            b.pour(0, holders[k], coupons[k]);
            b.dip(0, 0);
            CHECK.due(b.in(0, k), -7);
        }
        b.handIn(1);
        CHECK.due(b.in(0, 1), -7);
        b.handIn(0);
        int[] judged = {0, 1, 2, 3, 4};
        int[] in = {-7, 0, 0, -7, 0};
        for (int k = 0; k < in.length; k++) {
            CHECK.due(b.poured(k, 5), judged[k]);
            CHECK.due(b.in(0, k), in[k]);
        }
        // The WORTH as it was POURED, whatever it is now.
        Check.tell(b, "worth 9;", 0);
        CHECK.due(b.in(0, 0), -7);
    }

    private static void wasteByTheDays() {
        CHECK.saysOfTerm(4, "less WASTE times the DAYS between");
        for (int waste : new int[] {0, 1, 999_999}) {
            PetrolBoard b = board("waste " + waste + ";");
            b.dip(0, 0);
            b.dip(0, 0);
            b.day(1);
            b.dip(0, 0);
            b.dip(0, 0);
            b.day(719);
            b.dip(0, 0);
            CHECK.due(b.in(0, 0), 0);
            CHECK.due(b.in(0, 1), -waste);
            CHECK.due(b.in(0, 2), 0);
            CHECK.due(b.in(0, 3), -718 * waste);
        }
    }

    private static void wasteOfTheFirstOnesMonth() {
        CHECK.saysOfTerm(4, "(by ORDERS of the first one's MONTH)");
        PetrolBoard b = board("waste 1;");
        Check.tell(b, "waste 100;", 1);
        b.day(28);
        b.dip(0, 0);
        b.day(29);
        b.dip(0, 0);
        b.day(30);
        b.dip(0, 0);
        b.day(31);
        b.dip(0, 0);
        CHECK.due(b.in(0, 0), -1);
        CHECK.due(b.in(0, 1), -1);
        CHECK.due(b.in(0, 2), -100);
        CHECK.saysOfTerm(4, "(ORDERS as KNOWN TODAY.)");
        Check.tell(b, "waste 3;", 0);
        CHECK.due(b.in(0, 1), -3);
        CHECK.due(b.in(0, 2), -100);
        Check.tell(b, "", 1);
        CHECK.due(b.in(0, 2), 0);
    }

    private static void greatestIn() {
        CHECK.promise("term 4, the greatest and the least IN");
        PetrolBoard b = board("waste 999999;worth 999999;");
        b.dip(0, 0);
        for (int p = 0; p < 300; p++) {
            b.pour(0, 0, p);
        }
        b.day(719);
        b.dip(0, 200_000);
        for (int k = 0; k < 30; k++) {
            b.deliver(0, 100_000);
        }
        b.dip(0, 0);
        CHECK.due(b.in(0, 0), -300 * 999_999 - 719 * 999_999);
        CHECK.due(b.in(0, 1), 3_000_000);
        CHECK.due(b.sums(0, 0, 1, 0), -3);
        CHECK.due(b.sums(0, 1, 2, 1), 3_200_020);
        CHECK.due(b.handIn(0), 0);
        CHECK.due(b.in(0, 0), -719 * 999_999);
    }

    private static void withinDoubt() {
        CHECK.saysOfTerm(4, "LEVEL of a DIP: within DOUBT (of its MONTH) of what was told");
        for (int doubt : new int[] {0, 1, 20}) {
            PetrolBoard b = board("doubt " + doubt + ";");
            b.dip(0, 1000);
            b.dip(0, 900);
            CHECK.due(b.sums(0, 0, 1, 0), 100 - 2 * doubt);
            CHECK.due(b.sums(0, 0, 1, 1), 100 + 2 * doubt);
            for (int off = -doubt - 2; off <= doubt + 2; off++) {
                boolean is = Math.abs(off) <= doubt;
                b.level(0, 1000 + off);
                b.level(1, 900);
                CHECK.due(b.judged(0, 0, 1), is ? 100 + off : -1);
                b.level(0, 1000);
                b.level(1, 900 + off);
                CHECK.due(b.judged(0, 0, 1), is ? 100 - off : -1);
            }
        }
    }

    private static void levelsFromNought() {
        CHECK.saysOfTerm(4, "of what was told, 0 at least");
        PetrolBoard b = board("doubt 30;");
        for (int told : new int[] {29, 30, 31, 0}) {
            b.dip(0, told);
        }
        // LEVELS from 0, 0, 1 and 0 on, up to 59, 60, 61 and 30.
        CHECK.due(b.sums(0, 0, 1, 1), 59);
        CHECK.due(b.sums(0, 0, 2, 1), 58);
        CHECK.due(b.sums(0, 0, 3, 1), 59);
        CHECK.due(b.sums(0, 2, 3, 1), 61);
        CHECK.due(b.sums(0, 2, 3, 0), 0);
        PetrolBoard usual = board("");
        usual.dip(0, 100);
        usual.dip(0, 0);
        CHECK.due(usual.sums(0, 0, 1, 1), 120);
        CHECK.due(usual.sums(0, 0, 1, 0), 60);
        usual.level(0, 120);
        usual.level(1, 0);
        CHECK.due(usual.judged(0, 0, 1), 120);
    }

    private static void doubtOfItsMonth() {
        CHECK.saysOfTerm(4, "within DOUBT (of its MONTH)");
        PetrolBoard b = board("doubt 5;");
        Check.tell(b, "doubt 1;", 1);
        b.day(29);
        b.dip(0, 500);
        b.day(30);
        b.dip(0, 500);
        CHECK.due(b.sums(0, 0, 1, 1), 6);
        b.dip(0, 500);
        CHECK.due(b.sums(0, 1, 2, 1), 2);
        b.level(0, 505);
        b.level(1, 499);
        CHECK.due(b.judged(0, 0, 1), 6);
        b.level(1, 498);
        CHECK.due(b.judged(0, 0, 1), -1);
        // ORDERS as KNOWN TODAY.
        Check.tell(b, "doubt 2;", 1);
        CHECK.due(b.judged(0, 0, 1), 7);
        CHECK.due(b.sums(0, 0, 1, 1), 7);
        b.day(719);
        Check.tell(b, "doubt 0;", 0);
        CHECK.due(b.sums(0, 0, 1, 1), 2);
        CHECK.due(b.judged(0, 0, 1), -1);
    }

    private static void blackFromNought() {
        CHECK.saysOfTerm(4, "BLACK between two: IN and the first LEVEL less the next LEVEL: 0 at least.");
        for (int delivered : new int[] {9, 10, 11}) {
            PetrolBoard b = board("doubt 0;");
            b.dip(0, 100);
            b.deliver(0, delivered);
            b.dip(0, 110);
            b.dip(0, 50);
            boolean is = delivered >= 10;
            CHECK.due(b.sums(0, 0, 1, 0), is ? delivered - 10 : -3);
            CHECK.due(b.sums(0, 0, 1, 1), is ? delivered - 10 : -3);
            // What comes behind doesn't make up for it.
            CHECK.due(b.sums(0, 0, 2, 0), is ? delivered + 50 : -3);
            CHECK.due(b.sums(0, 0, 2, 1), is ? delivered + 50 : -3);
            CHECK.due(b.sums(0, 1, 2, 0), 60);
            b.level(0, 100);
            b.level(1, 110);
            b.level(2, 50);
            CHECK.due(b.judged(0, 0, 1), is ? delivered - 10 : -1);
            CHECK.due(b.judged(0, 0, 2), is ? delivered + 50 : -1);
        }
        PetrolBoard b = board("doubt 10;");
        b.dip(0, 100);
        b.dip(0, 100);
        for (int next = 88; next <= 112; next++) {
            b.level(0, 95);
            b.level(1, next);
            CHECK.due(b.judged(0, 0, 1), next >= 90 && next <= 95 ? 95 - next : -1);
        }
    }

    private static void leastAndMost() {
        CHECK.saysOfTerm(4, "SUMS from DIP i to DIP j: the least and the most BLACK of all between them by any LEVELS");
        PetrolBoard b = board("doubt 10;");
        // LEVELS 90 to 110, 95 to 115, 80 to 100, 0 to 12.
        for (int told : new int[] {100, 105, 90, 2}) {
            b.dip(0, told);
        }
        CHECK.due(b.sums(0, 0, 1, 0), 0);
        CHECK.due(b.sums(0, 0, 1, 1), 15);
        CHECK.due(b.sums(0, 0, 2, 0), 0);
        CHECK.due(b.sums(0, 0, 2, 1), 30);
        // From 95 at the least down to 12: the first may not be 90.
        CHECK.due(b.sums(0, 0, 3, 0), 83);
        CHECK.due(b.sums(0, 0, 3, 1), 110);
        CHECK.due(b.sums(0, 2, 3, 0), 68);
        CHECK.due(b.sums(0, 1, 3, 1), 115);
        CHECK.says(23, "SUMS from DIP i to DIP j (i below j): the least (what 0), the most (1).");
        for (int i = -1; i < 5; i++) {
            for (int j = -1; j < 6; j++) {
                boolean is = i >= 0 && i < j && j < 4;
                CHECK.due(b.sums(0, i, j, 0) >= 0, is);
                CHECK.due(b.sums(0, i, j, 1) >= 0, is);
                CHECK.due(b.sums(0, i, j, 2), -1);
                CHECK.due(b.sums(0, i, j, -1), -1);
                CHECK.due(b.sums(1, i, j, 0), -1);
            }
        }
    }

    private static void cannotBe() {
        CHECK.saysOfTerm(4, "or there are none such: they CAN'T BE");
        // With DOUBT 5 of both, ten tenths too much are just as can be.
        for (int told : new int[] {109, 110, 111}) {
            PetrolBoard b = board("doubt 5;");
            b.dip(0, 100);
            b.dip(0, told);
            b.dip(0, 0);
            b.dip(0, 0);
            boolean is = told <= 110;
            CHECK.due(b.sums(0, 0, 1, 0), is ? 0 : -3);
            CHECK.due(b.sums(0, 0, 1, 1), is ? 110 - told : -3);
            CHECK.due(b.sums(0, 0, 3, 0), is ? told - 5 - 5 : -3);
            CHECK.due(b.sums(0, 0, 3, 1), is ? 105 : -3);
            CHECK.due(b.sums(0, 1, 3, 1), told + 5);
            CHECK.due(b.sums(0, 2, 3, 0), 0);
            CHECK.due(b.sums(0, 0, 4, 0), -1);
        }
        // Each two can be, all three together can't: 95 to 105, 100 to 110, 106 to 116.
        PetrolBoard b = board("doubt 5;");
        b.dip(0, 100);
        b.dip(0, 105);
        b.dip(0, 111);
        CHECK.due(b.sums(0, 0, 1, 0), 0);
        CHECK.due(b.sums(0, 1, 2, 0), 0);
        CHECK.due(b.sums(0, 0, 2, 0), -3);
        CHECK.due(b.sums(0, 0, 2, 1), -3);
        // By WASTE alone.
        PetrolBoard wasted = board("doubt 0;waste 1;");
        wasted.dip(0, 100);
        wasted.day(50);
        wasted.dip(0, 50);
        wasted.day(101);
        wasted.dip(0, 0);
        CHECK.due(wasted.sums(0, 0, 1, 0), 0);
        CHECK.due(wasted.sums(0, 1, 2, 0), -3);
    }

    private static void sumsOfTheGreatest() {
        CHECK.promise("promise 23, all thirty DIPS and the greatest numbers");
        PetrolBoard b = board("doubt 999999;");
        b.dip(0, 200_000);
        for (int k = 1; k < 30; k++) {
            b.deliver(0, 100_000);
            b.dip(0, k % 2 * 200_000);
        }
        CHECK.due(b.sums(0, 0, 29, 1), 2_900_000 + 1_199_999);
        // The last may be 1,199,999, but the one ahead of it 999,999, and 100,000 come in.
        CHECK.due(b.sums(0, 0, 29, 0), 2_900_000 - 1_099_999);
        CHECK.due(b.sums(0, 28, 29, 0), 0);
        CHECK.due(b.sums(0, 0, 30, 0), -1);
        Check.tell(b, "doubt 0;", 0);
        CHECK.due(b.sums(0, 0, 29, 0), -3);
        CHECK.due(b.sums(0, 0, 1, 0), 100_000);
        CHECK.due(b.sums(0, 1, 2, 0), 300_000);
        CHECK.due(b.sums(0, 2, 3, 0), -3);
    }

    private static void rowOfLevels() {
        CHECK.says(24, "The LEVEL (0 to 300,000) of place k (0 to 29) of the ROW is told: true; false: not as told.");
        PetrolBoard b = board("doubt 999999;");
        for (int k = -2; k < 33; k++) {
            CHECK.due(b.level(k, 300_000), k >= 0 && k < 30);
            CHECK.due(b.level(k, 300_001), false);
            CHECK.due(b.level(k, -1), false);
        }
        b.dip(0, 0);
        b.dip(0, 0);
        b.deliver(0, 7);
        b.dip(0, 0);
        // What was refused is not told; what is told anew counts.
        CHECK.due(b.judged(0, 0, 2), 7);
        CHECK.due(b.level(2, 0), true);
        CHECK.due(b.judged(0, 0, 2), 300_007);
        CHECK.due(b.level(2, 300_007), false);
        CHECK.due(b.judged(0, 0, 2), 300_007);
        CHECK.due(b.level(1, 0), true);
        CHECK.due(b.judged(0, 0, 1), 300_000);
        CHECK.due(b.judged(0, 1, 2), 300_007);
    }

    private static void judgedAsTold() {
        CHECK.saysOfTerm(4, "A ROW of LEVELS judged: BLACK by it, if each is as told.");
        CHECK.says(25, "BLACK by the ROW (places 0 on) for DIPS i to j (i below j). NONE: none such, not such LEVELS.");
        PetrolBoard b = board("doubt 10;");
        b.dip(0, 300);
        b.dip(0, 200);
        b.deliver(0, 5);
        b.dip(0, 200);
        b.dip(0, 100);
        int[] row = {200, 195, 100};
        for (int k = 0; k < row.length; k++) {
            b.level(k, row[k]);
        }
        CHECK.due(b.judged(0, 0, 1), -1);
        CHECK.due(b.judged(0, 1, 2), 10);
        CHECK.due(b.judged(0, 1, 3), 105);
        CHECK.due(b.judged(0, 2, 3), -1);
        // A place behind the last DIP asked for doesn't count.
        b.level(2, 300_000);
        CHECK.due(b.judged(0, 1, 2), 10);
        CHECK.due(b.judged(0, 1, 3), -1);
        // A LEVEL that rises by more than IN: by 5 it may, by 6 and more it may not.
        for (int rise = 3; rise < 9; rise++) {
            b.level(0, 195);
            b.level(1, 195 + rise);
            CHECK.due(b.judged(0, 1, 2), rise <= 5 ? 5 - rise : -1);
        }
        for (int i = -1; i < 5; i++) {
            for (int j = -1; j < 6; j++) {
                if (i < 0 || i >= j || j > 3) {
                    CHECK.due(b.judged(0, i, j), -1);
                }
            }
        }
        CHECK.due(b.judged(1, 1, 2), -1);
        CHECK.due(b.judged(-1, 1, 2), -1);
        // IN below 0.
        PetrolBoard wasted = board("waste 10;");
        wasted.dip(0, 100);
        wasted.day(1);
        wasted.dip(0, 100);
        wasted.level(0, 100);
        for (int next = 80; next < 100; next++) {
            wasted.level(1, next);
            CHECK.due(wasted.judged(0, 0, 1), next <= 90 ? 90 - next : -1);
        }
    }

    private static void judgedOf30() {
        CHECK.promise("promise 25, all thirty DIPS");
        PetrolBoard b = board("");
        for (int k = 0; k < 30; k++) {
            b.dip(0, 1000 - k);
            b.level(k, 1010 - k);
        }
        CHECK.due(b.judged(0, 0, 29), 29);
        CHECK.due(b.judged(0, 0, 30), -1);
        CHECK.due(b.judged(0, 1, 29), 28);
        CHECK.due(b.judged(0, 28, 29), -1);
        b.level(29, 982);
        CHECK.due(b.judged(0, 0, 29), 28);
        b.level(29, 983);
        CHECK.due(b.judged(0, 0, 29), -1);
        CHECK.due(b.judged(0, 0, 28), 28);
    }

    // ---- LOADS

    private static PetrolBoard loads(int[] ports, int[] wants, int... roads) {
        PetrolBoard b = new PetrolBoard();
        for (int loads : ports) {
            b.port(loads);
        }
        for (int s = 0; s < wants.length; s++) {
            b.station();
            b.want(s, wants[s]);
        }
        for (int k = 0; k < roads.length; k++) {
            b.road(k / wants.length, k % wants.length, roads[k]);
        }
        return b;
    }

    private static void due(PetrolBoard b, int shut, int loads, int miles) {
        CHECK.due(b.flow(shut, 0), loads);
        CHECK.due(b.flow(shut, 1), miles);
    }

    private static void ports() {
        CHECK.saysOfTerm(4, "PORTS, up to 4, each with loads 0 to 50");
        PetrolBoard b = new PetrolBoard();
        int[] loads = {50, 0, 1, 49};
        for (int p = 0; p < 4; p++) {
            CHECK.due(b.port(-1), -1);
            CHECK.due(b.port(51), -1);
            CHECK.due(b.flow(p, 0), -1);
            CHECK.due(b.port(loads[p]), p);
            CHECK.due(b.flow(p, 0), 0);
            CHECK.due(b.count(10), p + 1);
        }
        CHECK.due(b.port(0), -1);
        CHECK.due(b.count(10), 4);
        CHECK.due(b.foretold(1, true), 10_000);
    }

    private static void wants() {
        CHECK.saysOfTerm(4, "STATIONS' wants 0 to 20");
        PetrolBoard b = loads(new int[] {50}, new int[] {0}, 2);
        for (int w = -2; w < 24; w++) {
            boolean is = w >= 0 && w <= 20;
            CHECK.due(b.want(0, w), is);
            CHECK.due(b.flow(-1, 0), is ? w : w < 0 ? 0 : 20);
        }
        CHECK.says(27, "A STATION wants so many loads: true; false: not as told.");
        CHECK.due(b.want(0, 3), true);
        CHECK.due(b.want(1, 3), false);
        CHECK.due(b.want(-1, 3), false);
        due(b, -1, 3, 6);
        // A STATION wants nothing till it's told.
        b.station();
        b.road(0, 1, 1);
        due(b, -1, 3, 6);
    }

    private static void roads() {
        CHECK.saysOfTerm(4, "ROADS of miles 1 to 999 from PORTS to STATIONS.");
        CHECK.says(28, "A ROAD (miles 0: none): true; false: not as told.");
        PetrolBoard b = loads(new int[] {9}, new int[] {2, 3});
        due(b, -1, 0, 0);
        for (int miles : new int[] {999, 1, 998, 2}) {
            CHECK.due(b.road(0, 0, miles), true);
            due(b, -1, 2, 2 * miles);
            CHECK.due(b.road(0, 0, 1000), false);
            CHECK.due(b.road(0, 0, -1), false);
            due(b, -1, 2, 2 * miles);
        }
        CHECK.due(b.road(0, 1, 0), true);
        due(b, -1, 2, 4);
        CHECK.due(b.road(0, 1, 7), true);
        due(b, -1, 5, 25);
        CHECK.due(b.road(0, 0, 0), true);
        due(b, -1, 3, 21);
        CHECK.due(b.road(0, 1, 0), true);
        due(b, -1, 0, 0);
        CHECK.due(b.road(1, 0, 5), false);
        CHECK.due(b.road(0, 2, 5), false);
        due(b, -1, 0, 0);
    }

    private static void flowAsManyAsCan() {
        CHECK.saysOfTerm(4, "FLOW: as many loads as can go");
        // Less in PORTS, less wanted, no ROAD, nothing at all.
        due(loads(new int[] {3}, new int[] {5}, 7), -1, 3, 21);
        due(loads(new int[] {5}, new int[] {3}, 7), -1, 3, 21);
        due(loads(new int[] {5}, new int[] {5}, 7), -1, 5, 35);
        due(loads(new int[] {0}, new int[] {5}, 7), -1, 0, 0);
        due(loads(new int[] {5}, new int[] {0}, 7), -1, 0, 0);
        due(loads(new int[] {5}, new int[] {5}, 0), -1, 0, 0);
        due(loads(new int[] {}, new int[] {5}), -1, 0, 0);
        due(loads(new int[] {5}, new int[] {}), -1, 0, 0);
        // One load more, however far.
        due(loads(new int[] {1, 1}, new int[] {1, 1}, 1, 1, 999, 0), -1, 2, 1000);
        due(loads(new int[] {1, 1}, new int[] {1, 1}, 1, 999, 999, 0), -1, 2, 1998);
        due(loads(new int[] {2, 1}, new int[] {2, 1}, 1, 1, 999, 0), -1, 3, 1 + 1 + 999);
        int[] wants = new int[10];
        int[] roads = new int[40];
        Arrays.fill(wants, 20);
        Arrays.fill(roads, 999);
        due(loads(new int[] {50, 50, 50, 50}, wants, roads), -1, 200, 199_800);
        Arrays.fill(wants, 19);
        due(loads(new int[] {50, 50, 50, 50}, wants, roads), -1, 190, 189_810);
    }

    private static void flowFewestMiles() {
        CHECK.saysOfTerm(4, "of all such ways the fewest miles (each load its road's)");
        due(loads(new int[] {2}, new int[] {1, 1, 1}, 5, 3, 4), -1, 2, 7);
        due(loads(new int[] {1, 1}, new int[] {1}, 5, 4), -1, 1, 4);
        due(loads(new int[] {1, 1}, new int[] {1, 1}, 1, 2, 2, 4), -1, 2, 4);
        due(loads(new int[] {1, 1}, new int[] {1, 1}, 1, 3, 2, 3), -1, 2, 4);
        // A chain through all four PORTS must be turned.
        due(loads(new int[] {1, 1, 1, 1}, new int[] {1, 1, 1, 1},
                9, 0, 0, 1, 1, 9, 0, 0, 0, 1, 9, 0, 0, 0, 1, 0), -1, 4, 4);
        due(loads(new int[] {1, 1, 1, 1}, new int[] {1, 1, 1, 1},
                1, 9, 0, 0, 0, 1, 9, 0, 0, 0, 1, 9, 1, 0, 0, 0), -1, 4, 28);
    }

    private static void flowOneShut() {
        CHECK.saysOfTerm(4, "as well if one PORT were shut");
        PetrolBoard b = loads(new int[] {2, 3, 4, 5}, new int[] {20}, 1, 2, 3, 4);
        due(b, -1, 14, 2 + 6 + 12 + 20);
        due(b, 0, 12, 6 + 12 + 20);
        due(b, 1, 11, 2 + 12 + 20);
        due(b, 2, 10, 2 + 6 + 20);
        due(b, 3, 9, 2 + 6 + 12);
        due(b, -1, 14, 40);
        CHECK.says(29, "FLOW with a PORT shut (NONE: none is): loads (what 0), miles (1). NONE: none such.");
        for (int what : new int[] {0, 1}) {
            CHECK.due(b.flow(4, what), -1);
            CHECK.due(b.flow(-2, what), -1);
        }
        CHECK.due(b.flow(0, 2), -1);
        CHECK.due(b.flow(0, -1), -1);
        PetrolBoard one = loads(new int[] {9}, new int[] {5}, 2);
        due(one, 0, 0, 0);
        due(one, -1, 5, 10);
        CHECK.due(one.flow(1, 0), -1);
        CHECK.due(new PetrolBoard().flow(0, 0), -1);
        CHECK.due(new PetrolBoard().flow(-1, 0), 0);
    }

    /** Against a reckoning by STATIONS one behind another: of each that is left in PORTS the fewest miles. */
    private static void flowAgainstStates() {
        CHECK.promise("promise 29, four PORTS and ten STATIONS by another road");
        Random random = new Random(77);
        for (int run = 0; run < 400; run++) {
            int[] ports = new int[4];
            int[] wants = new int[2 + random.nextInt(9)];
            int[] roads = new int[4 * wants.length];
            for (int p = 0; p < 4; p++) {
                ports[p] = random.nextInt(5);
            }
            for (int s = 0; s < wants.length; s++) {
                wants[s] = random.nextInt(4);
            }
            int most = random.nextInt(3) == 0 ? 999 : 9;
            for (int k = 0; k < roads.length; k++) {
                roads[k] = random.nextInt(3) == 0 ? 0 : 1 + random.nextInt(most);
            }
            PetrolBoard b = loads(ports, wants, roads);
            for (int shut = -1; shut < 4; shut++) {
                int[] open = ports.clone();
                if (shut >= 0) {
                    open[shut] = 0;
                }
                int[] best = byStates(open, wants, roads);
                due(b, shut, best[0], best[1]);
            }
        }
    }

    private static int[] byStates(int[] ports, int[] wants, int[] roads) {
        int[] miles = new int[625];
        Arrays.fill(miles, Integer.MAX_VALUE);
        int start = ports[0] + 5 * ports[1] + 25 * ports[2] + 125 * ports[3];
        miles[start] = 0;
        for (int s = 0; s < wants.length; s++) {
            int[] next = new int[625];
            Arrays.fill(next, Integer.MAX_VALUE);
            for (int state = 0; state < 625; state++) {
                if (miles[state] < Integer.MAX_VALUE) {
                    sendOn(next, state, miles[state], 0, wants[s], s, wants.length, roads);
                }
            }
            miles = next;
        }
        int all = Arrays.stream(ports).sum();
        int[] best = {-1, 0};
        for (int state = 0; state < 625; state++) {
            int sent = all - state % 5 - state / 5 % 5 - state / 25 % 5 - state / 125;
            if (miles[state] < Integer.MAX_VALUE && (sent > best[0] || sent == best[0] && miles[state] < best[1])) {
                best = new int[] {sent, miles[state]};
            }
        }
        return best;
    }

    private static void sendOn(int[] next, int state, int miles, int p, int lacking, int s, int stations, int[] roads) {
        if (p == 4) {
            next[state] = Math.min(next[state], miles);
            return;
        }
        int place = p == 0 ? 1 : p == 1 ? 5 : p == 2 ? 25 : 125;
        int road = roads[p * stations + s];
        int most = road == 0 ? 0 : Math.min(lacking, state / place % 5);
        for (int sent = 0; sent <= most; sent++) {
            sendOn(next, state - sent * place, miles + sent * road, p + 1, lacking - sent, s, stations, roads);
        }
    }
}
