/** The sentences of term 3 and of promises 12 to 19 (coupons, POURS) that name a bound, one test for each. */
public final class Term3Test {
    private static final Check CHECK = new Check("Term3Test");

    public static void main(String[] args) {
        thisMonthOrTheNext();
        issuedOnce();
        unitsAsKnownToday();
        numberedFrom();
        lentOnce();
        lendOfTheMonthAsKnownToday();
        usedFromItsMonth();
        usedTillItLapses();
        lapseAsKnownOnTheDayOfUse();
        poursUpTo300();
        anyNumber();
        worthOfTodaysMonth();
        handedInOfThatStation();
        noSuchCoupon();
        handedInAhead();
        lapsedOrNotCome();
        notThatHolders();
        theFirstThatHolds();
        dyed();
        found();
        whatIsPoured();
        goodAndOthers();
        CHECK.finish();
    }

    private static PetrolBoard board(String orders, int holders) {
        PetrolBoard b = Check.ordered(orders);
        for (int k = 0; k < holders; k++) {
            b.holder(1, 0, 1, 0, 0);
        }
        b.station();
        return b;
    }

    private static int judged(PetrolBoard b, int station, int holder, int coupon) {
        int p = b.pour(station, holder, coupon);
        b.handIn(station);
        return b.poured(p, 5);
    }

    private static void thisMonthOrTheNext() {
        CHECK.saysOfTerm(3, "A BOOK is issued to a HOLDER for this MONTH or the next");
        for (int today : new int[] {0, 29, 30, 59, 60, 659, 660, 689, 690, 719}) {
            int now = today / 30;
            for (int month = -1; month <= 25; month++) {
                PetrolBoard b = board("units 3;", 1);
                b.day(today);
                boolean can = (month == now || month == now + 1) && month < 24;
                CHECK.due(b.issue(0, month), can ? 3 : -1);
                CHECK.due(b.count(4), can ? 1 : 0);
                CHECK.due(b.owner(100 * Math.max(0, month)), can ? 0 : -1);
            }
        }
    }

    private static void issuedOnce() {
        CHECK.saysOfTerm(3, "for this MONTH or the next, once");
        PetrolBoard b = board("units 3;", 2);
        CHECK.due(b.issue(0, 1), 3);
        CHECK.due(b.issue(0, 1), -1);
        // Ahead of its MONTH or in it: once.
        b.day(30);
        CHECK.due(b.issue(0, 1), -1);
        CHECK.due(b.issue(1, 1), 3);
        b.day(59);
        CHECK.due(b.issue(0, 1), -1);
        CHECK.due(b.issue(0, 2), 3);
        CHECK.due(b.count(4), 3);
        // A BOOK without coupons is one.
        PetrolBoard none = board("", 1);
        CHECK.due(none.issue(0, 0), 0);
        CHECK.due(none.count(4), 1);
        Check.tell(none, "units 3;", 0);
        CHECK.due(none.issue(0, 0), -1);
        CHECK.due(none.owner(0), -1);
        CHECK.due(none.count(4), 1);
    }

    private static void unitsAsKnownToday() {
        CHECK.saysOfTerm(3, "UNITS coupons as KNOWN TODAY");
        PetrolBoard b = board("units 4+class;", 1);
        b.day(29);
        b.note(0, 1, 30);
        Check.tell(b, "units 50+class;", 2);
        CHECK.due(b.issue(0, 0), 4);
        CHECK.due(b.issue(0, 1), 5);
        b.day(30);
        b.undo(0);
        Check.tell(b, "units 9;", 1);
        CHECK.due(b.owner(104), 0);
        CHECK.due(b.owner(105), -1);
        CHECK.due(b.issue(0, 2), 50);
        for (int units : new int[] {0, 1, 98, 99}) {
            PetrolBoard each = board("units " + units + ";", 1);
            CHECK.due(each.issue(0, 0), units);
            CHECK.due(each.owner(units - 1), units > 0 ? 0 : -1);
            CHECK.due(each.owner(units), -1);
        }
    }

    private static void numberedFrom() {
        CHECK.saysOfTerm(3, "numbered from 100 times (24 times the HOLDER and the MONTH) on");
        PetrolBoard b = board("units 2;", 30);
        for (int h : new int[] {0, 1, 29}) {
            CHECK.due(b.issue(h, 0), 2);
        }
        b.day(719);
        for (int h : new int[] {0, 1, 28, 29}) {
            CHECK.due(b.issue(h, 23), 2);
        }
        int[] holders = {0, 1, 29, 0, 1, 28, 29};
        int[] first = {0, 2400, 69_600, 2300, 4700, 69_500, 71_900};
        for (int k = 0; k < first.length; k++) {
            CHECK.due(b.owner(first[k]), holders[k]);
            CHECK.due(b.owner(first[k] + 1), holders[k]);
            CHECK.due(b.owner(first[k] + 2), -1);
            CHECK.due(b.owner(first[k] - 1), -1);
            CHECK.due(b.owner(first[k] + 100), first[k] == 2300 ? 1 : first[k] == 69_500 ? 29 : -1);
        }
        CHECK.due(b.owner(72_000), -1);
        CHECK.due(b.owner(99_999), -1);
    }

    private static void lentOnce() {
        CHECK.saysOfTerm(3, "A coupon is its HOLDER's till it's LENT to another one, once");
        PetrolBoard b = board("units 4;lend 9;", 3);
        b.issue(1, 0);
        CHECK.due(b.owner(2400), 1);
        CHECK.due(b.lend(2400, 1), false);
        CHECK.due(b.owner(2400), 1);
        CHECK.due(b.lend(2400, 2), true);
        CHECK.due(b.owner(2400), 2);
        for (int to = 0; to < 3; to++) {
            CHECK.due(b.lend(2400, to), false);
        }
        CHECK.due(b.owner(2400), 2);
        CHECK.due(b.owner(2401), 1);
        CHECK.due(b.lend(2403, 0), true);
        CHECK.due(b.lend(2404, 0), false);
        CHECK.due(b.lend(2399, 0), false);
        CHECK.due(b.count(9), 2);
        // POURED on, not HANDED IN: it may be LENT. Out of its time, too.
        b.pour(0, 1, 2401);
        CHECK.due(b.lend(2401, 0), true);
        b.day(719);
        CHECK.due(b.lend(2402, 0), true);
    }

    private static void lendOfTheMonthAsKnownToday() {
        CHECK.saysOfTerm(3, "of one BOOK at most LEND are (by ORDERS of its MONTH as KNOWN TODAY)");
        for (int lend = 0; lend < 6; lend++) {
            PetrolBoard b = board("units 6;lend " + lend + ";", 2);
            b.issue(0, 0);
            for (int k = 0; k < 6; k++) {
                CHECK.due(b.lend(k, 1), k < lend);
                CHECK.due(b.count(9), Math.min(lend, k + 1));
            }
        }
        PetrolBoard b = board("units 6;lend 1;", 2);
        Check.tell(b, "units 6;lend 3;", 1);
        b.issue(0, 0);
        b.issue(0, 1);
        b.issue(1, 0);
        CHECK.due(b.lend(0, 1), true);
        CHECK.due(b.lend(1, 1), false);
        CHECK.due(b.lend(100, 1), true);
        CHECK.due(b.lend(101, 1), true);
        CHECK.due(b.lend(102, 1), true);
        CHECK.due(b.lend(103, 1), false);
        CHECK.due(b.lend(2400, 0), true);
        b.day(1);
        Check.tell(b, "lend 2;", 0);
        CHECK.due(b.lend(1, 1), true);
        CHECK.due(b.lend(2, 1), false);
        // Fewer than are LENT already: none more, and those stay.
        Check.tell(b, "lend 0;", 1);
        CHECK.due(b.lend(103, 1), false);
        CHECK.due(b.owner(102), 1);
        CHECK.due(b.count(9), 6);
    }

    private static void usedFromItsMonth() {
        CHECK.saysOfTerm(3, "it may be used in MONTHS from its own");
        for (int month : new int[] {1, 2, 23}) {
            PetrolBoard b = board("units 3;", 1);
            b.day(30 * month - 1);
            CHECK.due(b.issue(0, month), 3);
            CHECK.due(judged(b, 0, 0, 100 * month), 3);
            b.day(30 * month);
            CHECK.due(judged(b, 0, 0, 100 * month + 1), 0);
        }
    }

    private static void usedTillItLapses() {
        CHECK.saysOfTerm(3, "to LAPSE later (LAPSE of its MONTH as KNOWN on the DAY of use)");
        for (int lapse = 0; lapse < 4; lapse++) {
            for (int month = 0; month < 2; month++) {
                PetrolBoard b = board("units 4;lapse " + lapse + ";", 1);
                b.issue(0, month);
                b.day(30 * (month + lapse));
                CHECK.due(judged(b, 0, 0, 100 * month), 0);
                b.day(30 * (month + lapse) + 29);
                CHECK.due(judged(b, 0, 0, 100 * month + 1), 0);
                b.day(30 * (month + lapse) + 30);
                CHECK.due(judged(b, 0, 0, 100 * month + 2), 3);
                b.day(719);
                CHECK.due(judged(b, 0, 0, 100 * month + 3), 3);
            }
        }
        for (String lapse : new String[] {"23", "24", "999999"}) {
            PetrolBoard b = board("units 4;lapse " + lapse + ";", 1);
            b.issue(0, 0);
            b.day(719);
            CHECK.due(judged(b, 0, 0, 0), 0);
        }
        PetrolBoard b = board("units 4;lapse 22;", 1);
        b.issue(0, 0);
        b.day(689);
        CHECK.due(judged(b, 0, 0, 0), 0);
        b.day(690);
        CHECK.due(judged(b, 0, 0, 1), 3);
    }

    private static void lapseAsKnownOnTheDayOfUse() {
        CHECK.promise("term 3, LAPSE of its MONTH as KNOWN on the DAY of use, whenever it's HANDED IN");
        PetrolBoard b = board("units 9;lapse 0;", 1);
        b.issue(0, 0);
        b.day(30);
        int early = b.pour(0, 0, 0);
        b.day(31);
        int told = b.pour(0, 0, 1);
        // On that DAY, behind the POUR: KNOWN on the DAY of use.
        Check.tell(b, "units 9;lapse 1;", 0);
        b.day(32);
        int late = b.pour(0, 0, 2);
        b.day(33);
        Check.tell(b, "units 9;lapse 0;", 0);
        int again = b.pour(0, 0, 3);
        // Another MONTH's ORDERS tell nothing of it.
        Check.tell(b, "units 9;lapse 5;", 1);
        int other = b.pour(0, 0, 4);
        b.day(400);
        CHECK.due(b.handIn(0), 2);
        CHECK.due(b.poured(early, 5), 3);
        CHECK.due(b.poured(told, 5), 0);
        CHECK.due(b.poured(late, 5), 0);
        CHECK.due(b.poured(again, 5), 3);
        CHECK.due(b.poured(other, 5), 3);
    }

    private static void poursUpTo300() {
        CHECK.saysOfTerm(3, "POURED, up to 300");
        PetrolBoard b = board("units 99;", 3);
        b.station();
        b.issue(0, 0);
        b.issue(1, 0);
        for (int p = 0; p < 300; p++) {
            CHECK.due(b.pour(p % 2, p % 2, p % 2 * 2400 + p / 2 % 100), p);
        }
        CHECK.due(b.pour(0, 0, 0), -1);
        CHECK.due(b.count(6), 300);
        // Of each STATION 150: 99 coupons, a number that none has, and 50 of them once more.
        CHECK.due(b.handIn(1), 99);
        CHECK.due(b.count(8), 51);
        CHECK.due(b.handIn(0), 99);
        CHECK.due(b.count(7), 198);
        CHECK.due(b.count(8), 102);
        CHECK.due(b.poured(299, 5), 2);
        CHECK.due(b.poured(298, 5), 2);
        CHECK.due(b.poured(199, 5), 1);
        CHECK.due(b.poured(300, 5), -1);
        CHECK.due(b.pour(0, 0, 0), -1);
        CHECK.due(b.found(0), 0);
    }

    private static void anyNumber() {
        CHECK.saysOfTerm(3, "on a number 0 to 99,999, whatever it is");
        PetrolBoard b = board("", 2);
        int[] numbers = {0, 1, 99, 100, 2399, 2400, 71_999, 72_000, 72_001, 99_998, 99_999};
        for (int k = 0; k < numbers.length; k++) {
            CHECK.due(b.pour(0, k % 2, numbers[k]), k);
            CHECK.due(b.poured(k, 2), numbers[k]);
            CHECK.due(b.poured(k, 1), k % 2);
            CHECK.due(b.poured(k, 4), 10);
            CHECK.due(b.poured(k, 5), -1);
        }
        CHECK.due(b.pour(0, 0, -1), -1);
        CHECK.due(b.pour(0, 0, 100_000), -1);
        CHECK.due(b.handIn(0), 0);
        for (int k = 0; k < numbers.length; k++) {
            CHECK.due(b.poured(k, 5), 1);
        }
        CHECK.due(b.count(8), numbers.length);
    }

    private static void worthOfTodaysMonth() {
        CHECK.saysOfTerm(3, "a STATION gives a HOLDER WORTH (of TODAY's MONTH)");
        PetrolBoard b = board("units 9;worth 1;", 1);
        Check.tell(b, "worth 999999;", 1);
        b.issue(0, 0);
        b.issue(0, 1);
        b.day(29);
        CHECK.due(b.poured(b.pour(0, 0, 100), 4), 1);
        b.day(30);
        // The coupon's MONTH doesn't matter.
        CHECK.due(b.poured(b.pour(0, 0, 0), 4), 999_999);
        Check.tell(b, "worth 5;", 1);
        CHECK.due(b.poured(b.pour(0, 0, 1), 4), 5);
        CHECK.due(b.poured(0, 4), 1);
        CHECK.due(b.poured(1, 4), 999_999);
        CHECK.due(b.poured(0, 3), 29);
        CHECK.due(b.poured(2, 3), 30);
    }

    private static void handedInOfThatStation() {
        CHECK.saysOfTerm(3, "HANDED IN by a STATION: all its POURS that weren't, in order, each JUDGED, the first that holds");
        PetrolBoard b = board("units 9;", 1);
        CHECK.due(b.handIn(0), 0);
        b.station();
        b.issue(0, 0);
        b.pour(1, 0, 3);
        b.pour(0, 0, 3);
        b.pour(0, 0, 3);
        b.pour(1, 0, 4);
        CHECK.due(b.handIn(0), 1);
        int[] first = {-1, 0, 2, -1};
        for (int p = 0; p < 4; p++) {
            CHECK.due(b.poured(p, 5), first[p]);
        }
        CHECK.due(b.handIn(0), 0);
        CHECK.due(b.handIn(1), 1);
        CHECK.due(b.poured(0, 5), 2);
        CHECK.due(b.poured(3, 5), 0);
        b.pour(0, 0, 4);
        b.pour(0, 0, 5);
        CHECK.due(b.handIn(0), 1);
        int[] all = {2, 0, 2, 0, 2, 0};
        for (int p = 0; p < all.length; p++) {
            CHECK.due(b.poured(p, 5), all[p]);
        }
        CHECK.due(b.handIn(1), 0);
    }

    private static void noSuchCoupon() {
        CHECK.saysOfTerm(3, "1 there is no such coupon");
        PetrolBoard b = board("units 2;", 2);
        b.issue(0, 0);
        CHECK.due(judged(b, 0, 0, 1), 0);
        CHECK.due(judged(b, 0, 0, 2), 1);
        CHECK.due(judged(b, 0, 0, 99), 1);
        CHECK.due(judged(b, 0, 0, 100), 1);
        CHECK.due(judged(b, 0, 1, 2400), 1);
        CHECK.due(judged(b, 0, 0, 72_000), 1);
        // Again: there is still none, so it's 1, not 2.
        CHECK.due(judged(b, 0, 0, 2), 1);
        // When it's HANDED IN there must be one, not when it's POURED.
        int p = b.pour(0, 1, 2401);
        b.issue(1, 0);
        b.handIn(0);
        CHECK.due(b.poured(p, 5), 4);
        CHECK.due(judged(b, 0, 1, 2402), 1);
    }

    private static void handedInAhead() {
        CHECK.saysOfTerm(3, "2 one with that number was HANDED IN ahead (by any, GOOD or not)");
        PetrolBoard b = board("units 9;", 2);
        b.station();
        b.issue(0, 0);
        b.issue(0, 1);
        // GOOD ahead.
        CHECK.due(judged(b, 0, 0, 0), 0);
        CHECK.due(judged(b, 0, 0, 0), 2);
        CHECK.due(judged(b, 1, 0, 0), 2);
        CHECK.due(judged(b, 1, 1, 0), 2);
        // JUDGED 4 ahead.
        CHECK.due(judged(b, 1, 1, 1), 4);
        CHECK.due(judged(b, 0, 0, 1), 2);
        // JUDGED 3 ahead.
        CHECK.due(judged(b, 0, 0, 100), 3);
        b.day(30);
        CHECK.due(judged(b, 1, 0, 100), 2);
        CHECK.due(judged(b, 1, 0, 101), 0);
        // JUDGED 1 ahead.
        CHECK.due(judged(b, 0, 0, 200), 1);
        b.issue(0, 2);
        b.day(60);
        CHECK.due(judged(b, 0, 0, 200), 2);
        CHECK.due(judged(b, 0, 0, 201), 0);
        // POURED ahead isn't HANDED IN ahead.
        int first = b.pour(0, 0, 202);
        CHECK.due(judged(b, 1, 0, 202), 0);
        b.handIn(0);
        CHECK.due(b.poured(first, 5), 2);
    }

    private static void lapsedOrNotCome() {
        CHECK.saysOfTerm(3, "3 it had LAPSED, or its MONTH hadn't come");
        PetrolBoard b = board("units 9;lapse 1;", 1);
        b.issue(0, 0);
        b.issue(0, 1);
        b.day(29);
        int ahead = b.pour(0, 0, 100);
        b.day(30);
        int first = b.pour(0, 0, 101);
        b.day(59);
        int last = b.pour(0, 0, 0);
        b.day(60);
        int lapsed = b.pour(0, 0, 1);
        b.day(89);
        int latest = b.pour(0, 0, 102);
        b.day(90);
        int behind = b.pour(0, 0, 103);
        CHECK.due(b.handIn(0), 3);
        CHECK.due(b.poured(ahead, 5), 3);
        CHECK.due(b.poured(first, 5), 0);
        CHECK.due(b.poured(last, 5), 0);
        CHECK.due(b.poured(lapsed, 5), 3);
        CHECK.due(b.poured(latest, 5), 0);
        CHECK.due(b.poured(behind, 5), 3);
    }

    private static void notThatHolders() {
        CHECK.saysOfTerm(3, "4 it wasn't that HOLDER's as it was POURED (nobody's, if it was issued behind that)");
        PetrolBoard b = board("units 9;", 3);
        int early = b.pour(0, 0, 0);
        b.issue(0, 0);
        int own = b.pour(0, 0, 1);
        int others = b.pour(0, 1, 2);
        int before = b.pour(0, 1, 3);
        CHECK.due(b.lend(3, 1), true);
        CHECK.due(b.lend(4, 1), true);
        CHECK.due(b.lend(1, 2), true);
        int lent = b.pour(0, 1, 4);
        CHECK.due(b.lend(5, 1), true);
        int lender = b.pour(0, 0, 5);
        CHECK.due(b.lend(6, 1), true);
        int third = b.pour(0, 2, 6);
        CHECK.due(b.handIn(0), 2);
        int[] pours = {early, own, others, before, lent, lender, third};
        int[] due = {4, 0, 4, 4, 0, 4, 4};
        for (int k = 0; k < pours.length; k++) {
            CHECK.due(b.poured(pours[k], 5), due[k]);
        }
    }

    private static void theFirstThatHolds() {
        CHECK.promise("term 3, each JUDGED, the first that holds");
        PetrolBoard b = board("units 9;lapse 0;", 2);
        // 1 ahead of 3 and 4: a coupon of another HOLDER and of a MONTH to come that isn't there.
        CHECK.due(judged(b, 0, 1, 300), 1);
        b.issue(0, 0);
        b.issue(0, 1);
        CHECK.due(judged(b, 0, 0, 0), 0);
        // 2 ahead of 4, 2 ahead of 3 and 4, 3 ahead of 4.
        CHECK.due(judged(b, 0, 1, 0), 2);
        CHECK.due(judged(b, 0, 1, 100), 3);
        b.day(30);
        CHECK.due(judged(b, 0, 1, 0), 2);
        CHECK.due(judged(b, 0, 1, 1), 3);
        CHECK.due(judged(b, 0, 1, 101), 4);
        CHECK.due(judged(b, 0, 0, 101), 2);
        CHECK.due(judged(b, 0, 0, 102), 0);
        // 3 ahead of "nobody's".
        int p = b.pour(0, 0, 200);
        b.issue(0, 2);
        b.handIn(0);
        CHECK.due(b.poured(p, 5), 3);
    }

    private static void dyed() {
        CHECK.saysOfTerm(3, "who is a farmer TODAY (as KNOWN TODAY) is POURED dyed fuel, and it stays so");
        PetrolBoard b = board("", 2);
        b.note(0, 2, 5);
        CHECK.due(b.poured(b.pour(0, 0, 0), 6), 0);
        b.day(4);
        CHECK.due(b.poured(b.pour(0, 0, 0), 6), 0);
        b.day(5);
        CHECK.due(b.poured(b.pour(0, 0, 0), 6), 1);
        CHECK.due(b.poured(b.pour(0, 1, 0), 6), 0);
        b.note(0, 3, 7);
        b.day(6);
        CHECK.due(b.poured(b.pour(0, 0, 0), 6), 1);
        b.day(7);
        CHECK.due(b.poured(b.pour(0, 0, 0), 6), 0);
        b.undo(1);
        CHECK.due(b.poured(b.pour(0, 0, 0), 6), 1);
        b.undo(0);
        CHECK.due(b.poured(b.pour(0, 0, 0), 6), 0);
        int[] stays = {0, 0, 1, 0, 1, 0, 1, 0};
        b.day(719);
        b.handIn(0);
        for (int p = 0; p < stays.length; p++) {
            CHECK.due(b.poured(p, 6), stays[p]);
        }
    }

    private static void found() {
        CHECK.saysOfTerm(3, "FOUND: a HOLDER whose last POUR was dyed, and who isn't a farmer TODAY (as KNOWN TODAY)");
        PetrolBoard b = board("", 3);
        b.note(0, 2, 0);
        CHECK.due(b.found(0), 0);
        // The very first POUR of all.
        b.pour(0, 0, 0);
        CHECK.due(b.found(0), 0);
        b.day(1);
        b.undo(0);
        CHECK.due(b.found(0), 1);
        CHECK.due(b.found(1), 0);
        CHECK.due(b.found(2), 0);
        b.note(0, 2, 2);
        CHECK.due(b.found(0), 1);
        b.day(2);
        CHECK.due(b.found(0), 0);
        b.note(0, 1, 3);
        b.day(3);
        CHECK.due(b.found(0), 1);
        // Others' POURS, and HANDING IN, change nothing; one of his own that isn't dyed does.
        b.pour(0, 1, 0);
        b.handIn(0);
        CHECK.due(b.found(0), 1);
        b.pour(0, 0, 0);
        CHECK.due(b.found(0), 0);
        b.note(0, 2, 3);
        b.pour(0, 0, 0);
        b.note(0, 0, 3);
        CHECK.due(b.found(0), 1);
        CHECK.due(b.found(-1), -1);
        CHECK.due(b.found(3), -1);
    }

    private static void whatIsPoured() {
        CHECK.says(18, "Of a POUR: 0 STATION, 1 HOLDER, 2 the number, 3 DAY, 4 tenths, 5 JUDGED (NONE: not yet), 6 whether it was dyed (1). NONE: none such.");
        PetrolBoard b = board("worth 3;", 30);
        CHECK.due(b.poured(0, 5), -1);
        for (int s = 1; s < 10; s++) {
            b.station();
        }
        b.day(719);
        b.note(29, 2, 719);
        CHECK.due(b.pour(9, 29, 99_999), 0);
        int[] due = {9, 29, 99_999, 719, 3, -1, 1};
        for (int what = 0; what < due.length; what++) {
            CHECK.due(b.poured(0, what), due[what]);
        }
        CHECK.due(b.handIn(0), 0);
        CHECK.due(b.poured(0, 5), -1);
        CHECK.due(b.handIn(9), 0);
        CHECK.due(b.poured(0, 5), 1);
        CHECK.due(b.poured(0, 7), -1);
        CHECK.due(b.poured(0, -1), -1);
        CHECK.due(b.poured(1, 5), -1);
    }

    private static void goodAndOthers() {
        CHECK.says(37, "6 POURS, 7 GOOD ones, 8 others that are JUDGED, 9 LENT");
        PetrolBoard b = board("units 9;", 2);
        b.station();
        b.issue(0, 0);
        int[] none = {0, 0, 0, 0};
        counted(b, none);
        b.pour(0, 0, 0);
        b.pour(0, 0, 0);
        b.pour(0, 0, 99);
        b.pour(0, 1, 1);
        b.pour(1, 0, 2);
        counted(b, new int[] {5, 0, 0, 0});
        b.handIn(0);
        counted(b, new int[] {5, 1, 3, 0});
        b.handIn(1);
        counted(b, new int[] {5, 2, 3, 0});
        b.lend(3, 1);
        b.lend(3, 1);
        counted(b, new int[] {5, 2, 3, 1});
        b.day(719);
        counted(b, new int[] {5, 2, 3, 1});
    }

    private static void counted(PetrolBoard b, int[] due) {
        for (int k = 0; k < due.length; k++) {
            CHECK.due(b.count(6 + k), due[k]);
        }
    }
}
