/** Promises 34 to 37: OTHER WAYS, STAYS, FORETOLD and all counts. */
public final class DealTest {
    private static final Check CHECK = new Check("DealTest");

    public static void main(String[] args) {
        other();
        otherWithNoUnits();
        otherAsKnownToday();
        stays();
        foretold();
        foretoldByMonths();
        foretoldWithoutClassNought();
        foretoldLeast();
        counts();
        CHECK.finish();
    }

    private static PetrolBoard dealt() {
        PetrolBoard b = Check.ordered("units 10*size+month;");
        b.holder(1, 0, 1, 50, 12);
        b.holder(2, 0, 1, 90, 30);
        b.holder(3, 0, 1, 50, 25);
        b.holder(1, 0, 1, 40, 9);
        return b;
    }

    private static void dealDue(PetrolBoard b, int way, int month, int[] units, int... needs) {
        int staying = 0;
        for (int h = 0; h < units.length; h++) {
            CHECK.due(b.other(way, month, h, 0), units[h]);
            CHECK.due(b.other(way, month, h, 1), units[h] >= needs[h] ? 1 : 0);
            staying += units[h] >= needs[h] ? 1 : 0;
        }
        CHECK.due(b.stays(way, month), staying);
    }

    private static void other() {
        CHECK.promise("promise 34");
        PetrolBoard b = dealt();
        dealDue(b, 0, 0, new int[] {10, 20, 30, 10}, 12, 30, 25, 9);
        dealDue(b, 0, 2, new int[] {12, 22, 32, 12}, 12, 30, 25, 9);
        dealDue(b, 1, 0, new int[] {17, 17, 17, 17}, 12, 30, 25, 9);
        dealDue(b, 1, 1, new int[] {18, 18, 18, 18}, 12, 30, 25, 9);
        // By BID 90, 50 (two, by numbers), 40: 30, 12, 25, what is left of 70.
        dealDue(b, 2, 0, new int[] {12, 30, 25, 3}, 12, 30, 25, 9);
        dealDue(b, 2, 23, new int[] {12, 30, 25, 9}, 12, 30, 25, 9);
        CHECK.due(b.other(-1, 0, 0, 0), -1);
        CHECK.due(b.other(3, 0, 0, 0), -1);
        CHECK.due(b.other(0, -1, 0, 0), -1);
        CHECK.due(b.other(0, 24, 0, 0), -1);
        CHECK.due(b.other(0, 0, -1, 0), -1);
        CHECK.due(b.other(0, 0, 4, 0), -1);
        CHECK.due(b.other(0, 0, 0, -1), -1);
        CHECK.due(b.other(0, 0, 0, 2), -1);
        PetrolBoard two = Check.ordered("units 5;");
        two.holder(1, 0, 1, 7, 8);
        two.holder(1, 0, 1, 7, 8);
        dealDue(two, 2, 0, new int[] {8, 2}, 8, 8);
    }

    private static void otherWithNoUnits() {
        CHECK.promise("promise 34, no UNITS");
        PetrolBoard b = new PetrolBoard();
        CHECK.due(b.other(1, 0, 0, 0), -1);
        b.holder(1, 0, 1, 0, 0);
        b.holder(1, 0, 1, 0, 1);
        for (int way = 0; way < 3; way++) {
            dealDue(b, way, 0, new int[] {0, 0}, 0, 1);
        }
    }

    private static void otherAsKnownToday() {
        CHECK.promise("promise 34, as KNOWN TODAY");
        PetrolBoard b = Check.ordered("units 4+class;");
        b.holder(1, 0, 1, 0, 5);
        b.day(3);
        b.note(0, 1, 30);
        CHECK.due(b.other(0, 0, 0, 0), 4);
        CHECK.due(b.other(0, 1, 0, 0), 5);
        CHECK.due(b.other(2, 1, 0, 1), 1);
        b.day(4);
        b.undo(0);
        CHECK.due(b.other(0, 1, 0, 0), 4);
        Check.tell(b, "units 9;", 1);
        CHECK.due(b.other(0, 0, 0, 0), 4);
        CHECK.due(b.other(0, 1, 0, 0), 9);
    }

    private static void stays() {
        CHECK.promise("promise 35");
        PetrolBoard none = new PetrolBoard();
        for (int way = 0; way < 3; way++) {
            CHECK.due(none.stays(way, 0), 0);
        }
        PetrolBoard b = dealt();
        CHECK.due(b.stays(0, 0), 2);
        CHECK.due(b.stays(0, 2), 3);
        CHECK.due(b.stays(1, 0), 2);
        CHECK.due(b.stays(2, 0), 3);
        CHECK.due(b.stays(2, 23), 4);
        CHECK.due(b.stays(-1, 0), -1);
        CHECK.due(b.stays(3, 0), -1);
        CHECK.due(b.stays(0, -1), -1);
        CHECK.due(b.stays(0, 24), -1);
    }

    private static void foretold() {
        CHECK.promise("promise 36");
        PetrolBoard b = new PetrolBoard();
        CHECK.due(b.foretold(1, true), 0);
        CHECK.due(b.foretold(0, true), -2_000_000_000);
        CHECK.due(b.foretold(-1, true), -2_000_000_000);
        CHECK.due(b.foretold(13, true), -2_000_000_000);
        CHECK.due(b.foretold(Integer.MAX_VALUE, true), -2_000_000_000);
        b.port(3);
        b.port(2);
        CHECK.due(b.foretold(12, false), 500);
        b.day(359);
        CHECK.due(b.foretold(12, true), 500);
        b.day(390);
        CHECK.due(b.foretold(11, true), 500);
        CHECK.due(b.foretold(12, true), -2_000_000_000);
        b.day(719);
        CHECK.due(b.foretold(1, true), 500);
        CHECK.due(b.foretold(2, true), -2_000_000_000);
    }

    private static void foretoldByMonths() {
        CHECK.promise("promise 36, at each MONTH's WORTH");
        PetrolBoard b = Check.ordered("units 3+month;worth 7;");
        b.holder(1, 0, 1, 0, 0);
        b.holder(1, 0, 1, 0, 0);
        b.port(1);
        // 2 times 3 units of 7 tenths: 42, 5 gallons.
        CHECK.due(b.foretold(1, true), 95);
        // 42 and 56: 98, 10 gallons.
        CHECK.due(b.foretold(2, true), 90);
        CHECK.due(b.foretold(3, true), 100 - 17);
        Check.tell(b, "units 1;worth 20;", 1);
        // 42 and 40, then 40 again: all together by 10, cut up.
        CHECK.due(b.foretold(2, true), 100 - 9);
        CHECK.due(b.foretold(3, true), 100 - 13);
        b.day(30);
        CHECK.due(b.foretold(1, true), 96);
        CHECK.due(b.foretold(12, true), 52);
        Check.tell(b, "units 99;worth 10;", 0);
        CHECK.due(b.foretold(1, true), 96);
        Check.tell(b, "units 99;worth 10;", 1);
        CHECK.due(b.foretold(1, true), -98);
        CHECK.due(b.foretold(2, true), -296);
    }

    private static void foretoldWithoutClassNought() {
        CHECK.promise("promise 36, with or without CLASS 0");
        PetrolBoard b = Check.ordered("units 10;worth 10;");
        b.holder(1, 0, 1, 0, 0);
        b.holder(1, 0, 1, 0, 0);
        b.holder(1, 0, 1, 0, 0);
        b.port(1);
        b.note(1, 3, 30);
        b.note(2, 1, 1);
        CHECK.due(b.foretold(1, true), 70);
        CHECK.due(b.foretold(1, false), 100);
        CHECK.due(b.foretold(2, true), 40);
        CHECK.due(b.foretold(2, false), 80);
        CHECK.due(b.foretold(3, false), 60);
        b.day(10);
        b.undo(0);
        CHECK.due(b.foretold(3, false), 80);
        b.note(2, 0, 60);
        CHECK.due(b.foretold(3, false), 90);
    }

    private static void foretoldLeast() {
        CHECK.promise("promise 36, -1,999,999,999 at least");
        PetrolBoard b = Check.ordered("units 99;worth 999999;");
        for (int k = 0; k < 30; k++) {
            b.holder(1, 0, 1, 0, 0);
        }
        CHECK.due(b.foretold(1, true), -296_999_703);
        CHECK.due(b.foretold(6, true), -1_781_998_218);
        CHECK.due(b.foretold(7, true), -1_999_999_999);
        CHECK.due(b.foretold(12, true), -1_999_999_999);
        CHECK.due(b.foretold(12, false), 0);
    }

    private static void counts() {
        CHECK.promise("promise 37");
        PetrolBoard b = new PetrolBoard();
        int[] due = new int[13];
        same(b, due);
        b.day(7);
        due[0] = 7;
        same(b, due);
        b.holder(1, 0, 4, 0, 0);
        b.holder(1, 0, 4, 0, 0);
        due[1] = 2;
        same(b, due);
        b.note(0, 1, 0);
        b.undo(0);
        due[2] = 1;
        same(b, due);
        Check.feed(b, "units 9;lend 9;");
        due[12] = 20;
        same(b, due);
        b.orders(15, 0);
        due[3] = 1;
        due[12] = 0;
        same(b, due);
        b.issue(0, 0);
        b.issue(0, 1);
        b.issue(1, 0);
        due[4] = 3;
        same(b, due);
        b.station();
        due[5] = 1;
        same(b, due);
        b.pour(0, 0, 0);
        b.pour(0, 0, 1);
        b.pour(0, 1, 3);
        b.pour(0, 1, 4);
        b.pour(0, 1, 5);
        due[6] = 5;
        same(b, due);
        b.handIn(0);
        due[7] = 2;
        due[8] = 3;
        same(b, due);
        b.lend(6, 1);
        due[9] = 1;
        same(b, due);
        b.port(1);
        b.port(1);
        b.port(1);
        due[10] = 3;
        same(b, due);
        b.ask(0, 1, 1, 0, 7, 12);
        b.ask(0, 1, 1, 0, 7, 12);
        due[11] = 2;
        same(b, due);
        CHECK.due(b.count(13), -1);
        CHECK.due(b.count(-1), -1);
        CHECK.due(b.count(Integer.MAX_VALUE), -1);
        CHECK.due(b.count(Integer.MIN_VALUE), -1);
    }

    private static void same(PetrolBoard b, int[] due) {
        for (int what = 0; what < due.length; what++) {
            CHECK.due(b.count(what), due[what]);
        }
    }
}
