/** Promises 12 to 19: BOOKS, LENT coupons, what is POURED and HANDED IN, dyed fuel. */
public final class CouponsTest {
    private static final Check CHECK = new Check("CouponsTest");

    public static void main(String[] args) {
        issue();
        issueAtTheEnd();
        lend();
        lendByOrdersOfTheMonth();
        lendHandedIn();
        owner();
        stations();
        pour();
        pourWorth();
        handIn();
        handInElsewhere();
        handInLapsed();
        handInLapseAsKnown();
        handInLent();
        poured();
        found();
        CHECK.finish();
    }

    private static PetrolBoard board(String orders, int holders) {
        PetrolBoard b = Check.ordered(orders);
        for (int k = 0; k < holders; k++) {
            b.holder(1 + k % 9, 0, 1, 0, 0);
        }
        return b;
    }

    private static void issue() {
        CHECK.promise("promise 12");
        PetrolBoard b = board("units 10*size+month;", 2);
        CHECK.due(b.issue(2, 0), -1);
        CHECK.due(b.issue(-1, 0), -1);
        CHECK.due(b.issue(0, -1), -1);
        CHECK.due(b.issue(0, 2), -1);
        CHECK.due(b.issue(0, 24), -1);
        CHECK.due(b.count(4), 0);
        CHECK.due(b.issue(0, 0), 10);
        CHECK.due(b.issue(0, 0), -1);
        CHECK.due(b.issue(0, 1), 11);
        CHECK.due(b.issue(1, 1), 21);
        CHECK.due(b.count(4), 3);
        b.day(60);
        CHECK.due(b.issue(0, 1), -1);
        CHECK.due(b.issue(1, 0), -1);
        CHECK.due(b.issue(0, 4), -1);
        CHECK.due(b.issue(0, 3), 13);
        CHECK.due(b.issue(0, 2), 12);
        CHECK.due(b.count(4), 5);
        // What was issued stays, though UNITS are others now.
        Check.tell(b, "units 50;", 0);
        CHECK.due(b.owner(200 + 11), 0);
        CHECK.due(b.owner(200 + 12), -1);
        CHECK.due(b.issue(1, 3), 50);
        CHECK.due(b.issue(0, 3), -1);
        // A BOOK of no coupons is issued, too: once.
        Check.tell(b, "", 0);
        CHECK.due(b.issue(1, 2), 0);
        CHECK.due(b.issue(1, 2), -1);
        CHECK.due(b.count(4), 7);
        CHECK.due(b.owner(100 * 26), -1);
    }

    private static void issueAtTheEnd() {
        CHECK.promise("promise 12, the last MONTH");
        PetrolBoard b = board("units 99;", 1);
        b.day(719);
        CHECK.due(b.issue(0, 24), -1);
        CHECK.due(b.issue(0, 22), -1);
        CHECK.due(b.issue(0, 23), 99);
        CHECK.due(b.owner(2398), 0);
        CHECK.due(b.owner(2399), -1);
        CHECK.due(b.owner(2400), -1);
    }

    private static void lend() {
        CHECK.promise("promise 13");
        PetrolBoard b = board("units 8;lend 2;", 3);
        CHECK.due(b.lend(0, 1), false);
        b.issue(0, 0);
        b.issue(0, 1);
        b.issue(1, 0);
        CHECK.due(b.lend(8, 1), false);
        CHECK.due(b.lend(-1, 1), false);
        CHECK.due(b.lend(72_000, 1), false);
        CHECK.due(b.lend(Integer.MAX_VALUE, 1), false);
        CHECK.due(b.lend(Integer.MIN_VALUE, 1), false);
        CHECK.due(b.lend(0, 3), false);
        CHECK.due(b.lend(0, -1), false);
        CHECK.due(b.lend(0, 0), false);
        CHECK.due(b.count(9), 0);
        CHECK.due(b.lend(0, 1), true);
        CHECK.due(b.lend(0, 2), false);
        CHECK.due(b.lend(0, 0), false);
        CHECK.due(b.lend(7, 2), true);
        CHECK.due(b.lend(3, 2), false);
        CHECK.due(b.count(9), 2);
        // Another MONTH's BOOK and another one's: each has its own LEND.
        CHECK.due(b.lend(100, 1), true);
        CHECK.due(b.lend(2400, 0), true);
        CHECK.due(b.lend(101, 1), true);
        CHECK.due(b.lend(102, 1), false);
        CHECK.due(b.count(9), 5);
        Check.tell(b, "lend 3;", 0);
        CHECK.due(b.lend(3, 2), true);
        CHECK.due(b.lend(4, 2), false);
        Check.tell(b, "lend 0;", 0);
        CHECK.due(b.lend(2401, 0), false);
        PetrolBoard usual = board("units 8;", 2);
        usual.issue(0, 0);
        for (int k = 0; k < 8; k++) {
            CHECK.due(usual.lend(k, 1), k < 5);
        }
    }

    private static void lendByOrdersOfTheMonth() {
        CHECK.promise("promise 13, ORDERS of the BOOK's MONTH");
        PetrolBoard b = board("units 8;lend 0;", 2);
        Check.tell(b, "units 8;lend 1;", 1);
        b.issue(0, 0);
        b.issue(0, 1);
        CHECK.due(b.lend(0, 1), false);
        CHECK.due(b.lend(100, 1), true);
        CHECK.due(b.lend(101, 1), false);
        b.day(40);
        CHECK.due(b.lend(0, 1), false);
    }

    private static void lendHandedIn() {
        CHECK.promise("promise 13, HANDED IN");
        PetrolBoard b = board("units 8;", 2);
        b.station();
        b.pour(0, 0, 6);
        b.handIn(0);
        b.issue(0, 0);
        b.pour(0, 0, 0);
        b.pour(0, 1, 1);
        b.pour(0, 0, 2);
        CHECK.due(b.lend(0, 1), true);
        b.handIn(0);
        // GOOD or not: the coupon is HANDED IN.
        CHECK.due(b.poured(2, 5), 4);
        CHECK.due(b.lend(1, 1), false);
        CHECK.due(b.lend(2, 1), false);
        CHECK.due(b.lend(3, 1), true);
        CHECK.due(b.lend(6, 1), false);
    }

    private static void owner() {
        CHECK.promise("promise 14");
        PetrolBoard b = board("units 3;", 30);
        CHECK.due(b.owner(0), -1);
        b.issue(0, 0);
        b.issue(29, 1);
        CHECK.due(b.owner(0), 0);
        CHECK.due(b.owner(2), 0);
        CHECK.due(b.owner(3), -1);
        CHECK.due(b.owner(-1), -1);
        CHECK.due(b.owner(-100), -1);
        CHECK.due(b.owner(100), -1);
        CHECK.due(b.owner(100 * (24 * 29 + 1)), 29);
        CHECK.due(b.owner(100 * (24 * 29 + 1) + 3), -1);
        CHECK.due(b.owner(71_999), -1);
        CHECK.due(b.owner(72_000), -1);
        CHECK.due(b.owner(Integer.MAX_VALUE), -1);
        CHECK.due(b.owner(Integer.MIN_VALUE), -1);
        b.lend(1, 5);
        CHECK.due(b.owner(1), 5);
        CHECK.due(b.owner(0), 0);
    }

    private static void stations() {
        CHECK.promise("promise 15");
        PetrolBoard b = new PetrolBoard();
        for (int k = 0; k < 10; k++) {
            CHECK.due(b.station(), k);
        }
        CHECK.due(b.station(), -1);
        CHECK.due(b.count(5), 10);
    }

    private static void pour() {
        CHECK.promise("promise 16");
        PetrolBoard b = board("", 1);
        CHECK.due(b.pour(0, 0, 0), -1);
        b.station();
        CHECK.due(b.pour(-1, 0, 0), -1);
        CHECK.due(b.pour(1, 0, 0), -1);
        CHECK.due(b.pour(0, -1, 0), -1);
        CHECK.due(b.pour(0, 1, 0), -1);
        CHECK.due(b.pour(0, 0, -1), -1);
        CHECK.due(b.pour(0, 0, 100_000), -1);
        CHECK.due(b.count(6), 0);
        CHECK.due(b.pour(0, 0, 99_999), 0);
        CHECK.due(b.pour(0, 0, 0), 1);
        for (int k = 2; k < 300; k++) {
            CHECK.due(b.pour(0, 0, 7), k);
        }
        CHECK.due(b.pour(0, 0, 7), -1);
        CHECK.due(b.count(6), 300);
        CHECK.due(b.handIn(0), 0);
        CHECK.due(b.count(8), 300);
    }

    private static void pourWorth() {
        CHECK.promise("promise 16, WORTH of TODAY's MONTH");
        PetrolBoard b = board("worth 3;", 1);
        Check.tell(b, "worth 4;", 1);
        b.station();
        b.pour(0, 0, 100);
        b.day(29);
        b.pour(0, 0, 100);
        b.day(30);
        b.pour(0, 0, 0);
        Check.tell(b, "worth 5;", 1);
        b.pour(0, 0, 0);
        CHECK.due(b.poured(0, 4), 3);
        CHECK.due(b.poured(1, 4), 3);
        CHECK.due(b.poured(2, 4), 4);
        CHECK.due(b.poured(3, 4), 5);
        PetrolBoard usual = new PetrolBoard();
        usual.holder(1, 0, 1, 0, 0);
        usual.station();
        usual.pour(0, 0, 5);
        CHECK.due(usual.poured(0, 4), 10);
    }

    private static void handIn() {
        CHECK.promise("promise 17");
        PetrolBoard b = board("units 8;", 2);
        CHECK.due(b.handIn(0), -1);
        b.station();
        CHECK.due(b.handIn(-1), -1);
        CHECK.due(b.handIn(1), -1);
        CHECK.due(b.handIn(0), 0);
        b.issue(0, 0);
        b.pour(0, 0, 0);
        b.pour(0, 0, 8);
        b.pour(0, 0, 0);
        b.pour(0, 1, 1);
        b.pour(0, 0, 1);
        b.pour(0, 0, 2);
        CHECK.due(b.poured(0, 5), -1);
        CHECK.due(b.handIn(0), 2);
        int[] judged = {0, 1, 2, 4, 2, 0};
        for (int p = 0; p < judged.length; p++) {
            CHECK.due(b.poured(p, 5), judged[p]);
        }
        CHECK.due(b.count(7), 2);
        CHECK.due(b.count(8), 4);
        CHECK.due(b.handIn(0), 0);
        CHECK.due(b.count(8), 4);
        b.pour(0, 0, 3);
        b.pour(0, 0, 8);
        CHECK.due(b.handIn(0), 1);
        CHECK.due(b.poured(7, 5), 1);
        CHECK.due(b.count(7), 3);
    }

    private static void handInElsewhere() {
        CHECK.promise("promise 17, other STATIONS and later BOOKS");
        PetrolBoard b = board("units 8;", 2);
        b.station();
        b.station();
        b.pour(0, 0, 0);
        b.pour(0, 0, 1);
        b.issue(0, 0);
        b.pour(0, 0, 2);
        b.pour(1, 0, 2);
        b.pour(1, 0, 1);
        b.pour(1, 0, 2401);
        CHECK.due(b.handIn(1), 2);
        CHECK.due(b.poured(0, 5), -1);
        CHECK.due(b.poured(3, 5), 0);
        CHECK.due(b.poured(4, 5), 0);
        CHECK.due(b.poured(5, 5), 1);
        CHECK.due(b.handIn(0), 0);
        // Issued behind the POUR: nobody's then. 1 and 2 go ahead of that.
        CHECK.due(b.poured(0, 5), 4);
        CHECK.due(b.poured(1, 5), 2);
        CHECK.due(b.poured(2, 5), 2);
        // A number HANDED IN before its coupon was issued was HANDED IN ahead.
        b.issue(1, 0);
        b.pour(0, 1, 2401);
        b.pour(0, 1, 2402);
        CHECK.due(b.handIn(0), 1);
        CHECK.due(b.poured(6, 5), 2);
        CHECK.due(b.poured(7, 5), 0);
    }

    private static void handInLapsed() {
        CHECK.promise("promise 17, LAPSED");
        PetrolBoard b = board("units 8;", 1);
        b.station();
        b.issue(0, 0);
        b.issue(0, 1);
        b.pour(0, 0, 100);
        b.day(29);
        b.pour(0, 0, 101);
        b.day(30);
        b.pour(0, 0, 102);
        b.pour(0, 0, 1);
        b.day(59);
        b.pour(0, 0, 2);
        b.day(60);
        b.pour(0, 0, 3);
        b.pour(0, 0, 103);
        b.day(90);
        b.pour(0, 0, 104);
        // 3 goes ahead of 4.
        b.holder(1, 0, 1, 0, 0);
        b.pour(0, 1, 105);
        CHECK.due(b.handIn(0), 4);
        int[] judged = {3, 3, 0, 0, 0, 3, 0, 3, 3};
        for (int p = 0; p < judged.length; p++) {
            CHECK.due(b.poured(p, 5), judged[p]);
        }
    }

    private static void handInLapseAsKnown() {
        CHECK.promise("promise 17, LAPSE of the coupon's MONTH as KNOWN on the DAY of use");
        PetrolBoard b = board("units 8;lapse 0;", 1);
        Check.tell(b, "units 8;lapse 2;", 1);
        b.station();
        b.issue(0, 0);
        b.issue(0, 1);
        b.day(30);
        b.pour(0, 0, 0);
        b.day(89);
        b.pour(0, 0, 100);
        b.day(100);
        b.pour(0, 0, 101);
        b.day(120);
        b.pour(0, 0, 102);
        b.pour(0, 0, 1);
        Check.tell(b, "lapse 4;", 0);
        b.pour(0, 0, 2);
        b.day(125);
        Check.tell(b, "lapse 5;", 1);
        b.day(126);
        b.pour(0, 0, 103);
        // Told behind the DAYS of use, these count for none of them.
        Check.tell(b, "lapse 23;", 0);
        Check.tell(b, "lapse 0;", 1);
        b.day(127);
        Check.tell(b, "lapse 0;", 0);
        Check.tell(b, "lapse 23;", 1);
        CHECK.due(b.handIn(0), 4);
        int[] judged = {3, 0, 0, 3, 0, 0, 3};
        for (int p = 0; p < judged.length; p++) {
            CHECK.due(b.poured(p, 5), judged[p]);
        }
    }

    private static void handInLent() {
        CHECK.promise("promise 17, whose it was as it was POURED");
        PetrolBoard b = board("units 8;", 3);
        b.station();
        b.issue(0, 0);
        b.pour(0, 0, 0);
        b.pour(0, 1, 1);
        b.lend(0, 1);
        b.lend(1, 1);
        b.lend(2, 1);
        b.lend(3, 1);
        b.pour(0, 0, 2);
        b.pour(0, 1, 3);
        CHECK.due(b.handIn(0), 2);
        int[] judged = {0, 4, 4, 0};
        for (int p = 0; p < judged.length; p++) {
            CHECK.due(b.poured(p, 5), judged[p]);
        }
    }

    private static void poured() {
        CHECK.promise("promise 18");
        PetrolBoard b = board("units 8;worth 12;", 3);
        b.station();
        b.station();
        b.day(7);
        CHECK.due(b.poured(0, 0), -1);
        b.pour(0, 1, 5);
        b.note(2, 2, 0);
        b.pour(1, 2, 99_999);
        int[] due = {1, 2, 99_999, 7, 12, -1, 1};
        for (int what = 0; what < 7; what++) {
            CHECK.due(b.poured(1, what), due[what]);
        }
        CHECK.due(b.poured(0, 0), 0);
        CHECK.due(b.poured(0, 1), 1);
        CHECK.due(b.poured(0, 2), 5);
        CHECK.due(b.poured(0, 6), 0);
        CHECK.due(b.poured(0, 7), -1);
        CHECK.due(b.poured(0, -1), -1);
        CHECK.due(b.poured(-1, 0), -1);
        CHECK.due(b.poured(2, 0), -1);
        b.handIn(1);
        CHECK.due(b.poured(1, 5), 1);
        CHECK.due(b.poured(0, 5), -1);
        // Dyed stays so, whatever is KNOWN later.
        b.undo(0);
        CHECK.due(b.poured(1, 6), 1);
        b.pour(1, 2, 1);
        CHECK.due(b.poured(2, 6), 0);
    }

    private static void found() {
        CHECK.promise("promise 19");
        PetrolBoard b = board("", 2);
        CHECK.due(b.found(-1), -1);
        CHECK.due(b.found(2), -1);
        CHECK.due(b.found(0), 0);
        b.station();
        b.station();
        b.note(0, 2, 10);
        b.note(1, 2, 0);
        b.pour(0, 0, 1);
        b.pour(0, 1, 1);
        CHECK.due(b.found(0), 0);
        b.day(10);
        b.pour(0, 0, 1);
        CHECK.due(b.poured(2, 6), 1);
        CHECK.due(b.found(0), 0);
        b.day(11);
        b.note(0, 3, 12);
        CHECK.due(b.found(0), 0);
        b.day(12);
        CHECK.due(b.found(0), 1);
        CHECK.due(b.found(1), 0);
        // The last POUR counts, at any STATION.
        b.pour(1, 0, 1);
        CHECK.due(b.found(0), 0);
        b.undo(1);
        CHECK.due(b.found(1), 1);
        b.note(1, 2, 12);
        CHECK.due(b.found(1), 0);
    }
}
