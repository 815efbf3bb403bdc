/** The sentences of term 1 (DAYS, HOLDERS, NOTES, CLASSES) that name a bound, one test for each. */
public final class Term1Test {
    private static final Check CHECK = new Check("Term1Test");

    public static void main(String[] args) {
        callsOfOneObject();
        newObject();
        todayAtFirst();
        laterDays();
        monthOfADay();
        holdersUpTo30();
        eachNumberOfAHolder();
        notesUpTo200();
        kinds();
        fromADayOn();
        knownFromTheDayItWasTold();
        knownTillTheDayItIsUndone();
        undoneOnTheDayItWasTold();
        latestDayUpToIt();
        ofOneDayTheOneToldLast();
        noughtWithout();
        CHECK.finish();
    }

    private static PetrolBoard oneHolder() {
        PetrolBoard b = new PetrolBoard();
        b.holder(1, 0, 1, 0, 0);
        return b;
    }

    private static void callsOfOneObject() {
        CHECK.promise("an object is used for at most 512 calls: all of them LENT, as many as can be");
        PetrolBoard b = new PetrolBoard();
        for (int h = 0; h < 4; h++) {
            CHECK.due(b.holder(1, 0, 1, 0, 0), h);
        }
        Check.tell(b, "units 99;lend 99;", 0);
        for (int h = 0; h < 3; h++) {
            CHECK.due(b.issue(h, 0), 99);
            CHECK.due(b.issue(h, 1), 99);
        }
        int calls = 4 + 2 + 6;
        int lent = 0;
        for (int book = 0; book < 6; book++) {
            for (int k = 0; k < 99 && calls < 511; k++) {
                CHECK.due(b.lend(2400 * (book / 2) + 100 * (book % 2) + k, 3), true);
                calls++;
                lent++;
            }
        }
        CHECK.due(b.count(9), lent);
        CHECK.due(lent, 499);
    }

    private static void newObject() {
        CHECK.says(1, "No HOLDERS, STATIONS, PORTS, ORDERS.");
        Twin.some(new PetrolBoard());
        // Nothing of another object is in it.
        PetrolBoard b = new PetrolBoard();
        for (int what = 0; what <= 12; what++) {
            CHECK.due(b.count(what), 0);
        }
        CHECK.due(b.fault(), -1);
        CHECK.due(b.rule(23, 719, 5), -1);
        CHECK.due(b.note(0, 0, 0), -1);
        CHECK.due(b.undo(0), false);
        CHECK.due(b.classOf(0, 0, 0), -1);
        CHECK.due(b.orders(1, 0), -2);
        CHECK.due(b.units(0, 0, 0), -1);
        CHECK.due(b.issue(0, 0), -1);
        CHECK.due(b.lend(0, 0), false);
        CHECK.due(b.owner(0), -1);
        CHECK.due(b.pour(0, 0, 0), -1);
        CHECK.due(b.handIn(0), -1);
        CHECK.due(b.poured(0, 0), -1);
        CHECK.due(b.found(0), -1);
        CHECK.due(b.deliver(0, 1), -1);
        CHECK.due(b.dip(0, 0), -1);
        CHECK.due(b.in(0, 0), -2_000_000_000);
        CHECK.due(b.sums(0, 0, 1, 0), -1);
        CHECK.due(b.judged(0, 0, 1), -1);
        CHECK.due(b.want(0, 0), false);
        CHECK.due(b.road(0, 0, 1), false);
        CHECK.due(b.flow(0, 0), -1);
        CHECK.due(b.flow(-1, 0), 0);
        CHECK.due(b.flow(-1, 1), 0);
        CHECK.due(b.ask(0, 1, 1, 0, 0, 12), -1);
        CHECK.due(b.appeal(0, 0), -1);
        CHECK.due(b.journey(0, 0), -1);
        CHECK.due(b.pool(0, 12, 0), -1);
        CHECK.due(b.other(0, 0, 0, 0), -1);
        CHECK.due(b.stays(0, 0), 0);
        CHECK.due(b.foretold(12, true), 0);
        CHECK.due(b.orders(0, 0), 0);
        CHECK.due(b.holder(1, 0, 1, 0, 0), 0);
        CHECK.due(b.station(), 0);
        CHECK.due(b.port(0), 0);
        CHECK.due(b.in(0, 0), -2_000_000_000);
        CHECK.due(b.found(0), 0);
    }

    private static void todayAtFirst() {
        CHECK.saysOfTerm(1, "TODAY is 0 at first");
        PetrolBoard b = oneHolder();
        CHECK.due(b.count(0), 0);
        CHECK.due(b.day(0), false);
        b.note(0, 1, 0);
        CHECK.due(b.classOf(0, 0, 0), 1);
        CHECK.due(b.ask(0, 1, 1, 0, 0, 12), 0);
        CHECK.due(b.day(1), true);
        CHECK.due(b.count(0), 1);
    }

    private static void laterDays() {
        CHECK.saysOfTerm(1, "DAYS 0 to 719");
        PetrolBoard b = oneHolder();
        CHECK.due(b.day(-1), false);
        CHECK.due(b.day(718), true);
        CHECK.due(b.day(718), false);
        CHECK.due(b.day(717), false);
        CHECK.due(b.day(720), false);
        CHECK.due(b.day(719), true);
        CHECK.due(b.day(719), false);
        CHECK.due(b.day(720), false);
        CHECK.due(b.count(0), 719);
        CHECK.due(b.note(0, 3, 719), 0);
        CHECK.due(b.classOf(0, 719, 719), 3);
        CHECK.due(b.classOf(0, 719, 718), 0);
        CHECK.due(b.classOf(0, 718, 719), 0);
        CHECK.due(b.undo(0), true);
        CHECK.due(b.classOf(0, 719, 719), 0);
        CHECK.due(b.ask(0, 1, 1, 0, 718, 12), -1);
        CHECK.due(b.ask(0, 1, 1, 0, 719, 12), 0);
    }

    private static void monthOfADay() {
        CHECK.saysOfTerm(1, "the MONTH of a DAY is it by 30 (cut)");
        PetrolBoard granted = Check.ordered("trip month;");
        granted.holder(1, 0, 1, 0, 0);
        for (int month = 0; month < 24; month++) {
            CHECK.due(granted.journey(granted.ask(0, 1, 1, 0, 30 * month, 12), 6), month);
            CHECK.due(granted.journey(granted.ask(0, 1, 1, 0, 30 * month + 29, 12), 6), month);
            PetrolBoard b = Check.ordered("units 1;");
            b.holder(1, 0, 1, 0, 0);
            b.station();
            Check.tell(b, "worth 77;", month);
            if (month > 0) {
                b.day(30 * month - 1);
                CHECK.due(b.poured(b.pour(0, 0, 1), 4), 10);
                CHECK.due(b.issue(0, month + 1), -1);
            }
            b.day(30 * month);
            CHECK.due(b.poured(b.pour(0, 0, 1), 4), 77);
            b.day(30 * month + 29);
            CHECK.due(b.poured(b.pour(0, 0, 1), 4), 77);
            CHECK.due(b.issue(0, month), 0);
        }
    }

    private static void holdersUpTo30() {
        CHECK.saysOfTerm(1, "HOLDERS, up to 30");
        PetrolBoard b = new PetrolBoard();
        for (int h = 0; h < 30; h++) {
            CHECK.due(b.count(1), h);
            CHECK.due(b.holder(1, 0, 1, 0, 0), h);
        }
        CHECK.due(b.holder(1, 0, 1, 0, 0), -1);
        CHECK.due(b.count(1), 30);
        CHECK.due(b.classOf(29, 0, 0), 0);
        CHECK.due(b.classOf(30, 0, 0), -1);
    }

    private static void eachNumberOfAHolder() {
        CHECK.saysOfTerm(1, "a car of SIZE 1 to 9, in TOWN 0 to 9, with SEATS 1 to 8, a BID 0 to 999 and a NEED 0 to 99");
        int[][] bounds = {{1, 9}, {0, 9}, {1, 8}, {0, 999}, {0, 99}};
        for (int k = 0; k < bounds.length; k++) {
            for (int v = bounds[k][0] - 3; v <= bounds[k][1] + 3; v++) {
                int[] n = {1, 0, 1, 0, 0};
                n[k] = v;
                PetrolBoard b = new PetrolBoard();
                boolean can = v >= bounds[k][0] && v <= bounds[k][1];
                CHECK.due(b.holder(n[0], n[1], n[2], n[3], n[4]), can ? 0 : -1);
                CHECK.due(b.count(1), can ? 1 : 0);
            }
        }
    }

    private static void notesUpTo200() {
        CHECK.saysOfTerm(1, "told in NOTES, up to 200");
        PetrolBoard b = oneHolder();
        for (int n = 0; n < 200; n++) {
            CHECK.due(b.note(0, n % 5, 0), n);
        }
        CHECK.due(b.note(0, 2, 0), -1);
        CHECK.due(b.classOf(0, 0, 0), 4);
        CHECK.due(b.undo(200), false);
        CHECK.due(b.undo(199), true);
        CHECK.due(b.note(0, 2, 0), -1);
        CHECK.due(b.classOf(0, 0, 0), 3);
        CHECK.due(b.undo(0), true);
        CHECK.due(b.note(0, 2, 0), -1);
        CHECK.due(b.count(2), 200);
    }

    private static void kinds() {
        CHECK.saysOfTerm(1, "CLASSES 0 to 4 (2: farmers)");
        PetrolBoard b = oneHolder();
        b.station();
        CHECK.due(b.note(0, -1, 0), -1);
        CHECK.due(b.note(0, 5, 0), -1);
        for (int kind = 0; kind < 5; kind++) {
            CHECK.due(b.note(0, kind, 0), kind);
            CHECK.due(b.classOf(0, 0, 0), kind);
            CHECK.due(b.poured(b.pour(0, 0, 0), 6), kind == 2 ? 1 : 0);
        }
    }

    private static void fromADayOn() {
        CHECK.saysOfTerm(1, "a HOLDER is of a CLASS from a DAY on (0 to 719)");
        for (int from : new int[] {0, 1, 359, 718, 719}) {
            PetrolBoard b = oneHolder();
            CHECK.due(b.note(0, 3, from), 0);
            for (int day = Math.max(0, from - 2); day < Math.min(720, from + 3); day++) {
                CHECK.due(b.classOf(0, day, 0), day < from ? 0 : 3);
            }
            CHECK.due(b.classOf(0, 719, 719), 3);
        }
        PetrolBoard b = oneHolder();
        CHECK.due(b.note(0, 3, -1), -1);
        CHECK.due(b.note(0, 3, 720), -1);
        CHECK.due(b.classOf(0, 719, 719), 0);
    }

    private static void knownFromTheDayItWasTold() {
        CHECK.saysOfTerm(1, "KNOWN from the DAY on which it was told");
        for (int told : new int[] {1, 30, 719}) {
            PetrolBoard b = oneHolder();
            b.day(told);
            // From a DAY ahead of it on, too: KNOWN from the telling on alone.
            b.note(0, 3, 0);
            CHECK.due(b.classOf(0, 0, told - 1), 0);
            CHECK.due(b.classOf(0, 719, told - 1), 0);
            CHECK.due(b.classOf(0, 0, told), 3);
            CHECK.due(b.classOf(0, 719, 719), 3);
            CHECK.due(b.classOf(0, 0, 0), 0);
        }
    }

    private static void knownTillTheDayItIsUndone() {
        CHECK.saysOfTerm(1, "till the DAY on which it's UNDONE (from that DAY on it isn't)");
        for (int undone : new int[] {1, 30, 719}) {
            PetrolBoard b = oneHolder();
            b.note(0, 3, 0);
            b.day(undone);
            CHECK.due(b.classOf(0, 0, undone), 3);
            CHECK.due(b.undo(0), true);
            CHECK.due(b.classOf(0, 0, undone), 0);
            CHECK.due(b.classOf(0, 0, undone - 1), 3);
            CHECK.due(b.classOf(0, 719, undone - 1), 3);
            CHECK.due(b.classOf(0, 0, 719), 0);
            b.day(719);
            CHECK.due(b.undo(0), false);
            CHECK.due(b.classOf(0, 0, undone - 1), 3);
            CHECK.due(b.classOf(0, 0, undone), 0);
        }
    }

    private static void undoneOnTheDayItWasTold() {
        CHECK.promise("term 1, UNDONE on the DAY on which it was told: KNOWN on none");
        for (int day : new int[] {0, 1, 719}) {
            PetrolBoard b = oneHolder();
            b.day(day);
            b.note(0, 3, 0);
            b.undo(0);
            for (int known : new int[] {0, Math.max(0, day - 1), day, Math.min(719, day + 1), 719}) {
                CHECK.due(b.classOf(0, 719, known), 0);
            }
        }
    }

    private static void latestDayUpToIt() {
        CHECK.saysOfTerm(1, "CLASS on a DAY: by the NOTE KNOWN from the latest DAY up to it");
        PetrolBoard b = oneHolder();
        b.note(0, 1, 10);
        b.note(0, 4, 12);
        b.note(0, 3, 11);
        b.note(0, 2, 9);
        int[] due = {0, 2, 1, 3, 4, 4};
        for (int k = 0; k < due.length; k++) {
            CHECK.due(b.classOf(0, 8 + k, 0), due[k]);
        }
        // The latest is KNOWN no more: the one ahead of it counts again.
        b.day(1);
        b.undo(1);
        CHECK.due(b.classOf(0, 12, 1), 3);
        CHECK.due(b.classOf(0, 12, 0), 4);
        CHECK.due(b.classOf(0, 719, 1), 3);
    }

    private static void ofOneDayTheOneToldLast() {
        CHECK.saysOfTerm(1, "of one DAY the one told last");
        PetrolBoard b = oneHolder();
        b.note(0, 4, 5);
        b.note(0, 1, 5);
        CHECK.due(b.classOf(0, 5, 0), 1);
        b.note(0, 0, 5);
        CHECK.due(b.classOf(0, 5, 0), 0);
        b.day(3);
        b.note(0, 2, 5);
        CHECK.due(b.classOf(0, 5, 2), 0);
        CHECK.due(b.classOf(0, 5, 3), 2);
        b.undo(3);
        b.undo(2);
        CHECK.due(b.classOf(0, 5, 3), 1);
        b.undo(1);
        CHECK.due(b.classOf(0, 5, 3), 4);
        CHECK.due(b.classOf(0, 5, 2), 0);
    }

    private static void noughtWithout() {
        CHECK.saysOfTerm(1, "0 without");
        PetrolBoard b = oneHolder();
        b.holder(1, 0, 1, 0, 0);
        CHECK.due(b.classOf(0, 0, 0), 0);
        CHECK.due(b.classOf(0, 719, 719), 0);
        b.note(0, 3, 1);
        CHECK.due(b.classOf(0, 0, 0), 0);
        // Another HOLDER's NOTE.
        CHECK.due(b.classOf(1, 719, 719), 0);
        b.note(1, 4, 0);
        CHECK.due(b.classOf(0, 0, 0), 0);
        CHECK.due(b.classOf(0, 1, 0), 3);
    }
}
