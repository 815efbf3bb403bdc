/** The sentences of term 5 and of promises 30 to 37 (JOURNEYS, POOLS, OTHER WAYS) that name a bound, one test each. */
public final class Term5Test {
    private static final Check CHECK = new Check("Term5Test");
    private static final int NO_AMOUNT = -2_000_000_000;

    public static void main(String[] args) {
        journeysUpTo60();
        eachNumberOfAJourney();
        fromATownToAnother();
        todayTo719();
        firstTrip();
        grantedOfTheDay();
        grantedHeld();
        appealToAnotherReason();
        appealAsKnownThen();
        whatOfAJourney();
        likeByTheirMiles();
        likeByTheRest();
        kthLike();
        poolOfThen();
        firstTwelve();
        asFewAsHaveSeats();
        leastSumThenLeastNumber();
        together();
        asTheyAre();
        alike();
        sold();
        stays();
        foretoldMonths();
        foretoldOfLoads();
        foretoldCutUp();
        foretoldKinds();
        foretoldBelow();
        counts();
        CHECK.finish();
    }

    private static PetrolBoard board(String orders, int... seats) {
        PetrolBoard b = Check.ordered(orders);
        for (int s : seats) {
            b.holder(1, 0, s, 0, 0);
        }
        return b;
    }

    private static void journeysUpTo60() {
        CHECK.saysOfTerm(5, "JOURNEYS, up to 60");
        PetrolBoard b = board("trip 7;", 1);
        for (int j = 0; j < 60; j++) {
            CHECK.due(b.journey(j, 6), -1);
            CHECK.due(b.ask(0, 1 + j, 1, 0, 0, 12), j);
            CHECK.due(b.journey(j, 6), 7);
        }
        CHECK.due(b.ask(0, 1, 1, 0, 0, 12), -1);
        CHECK.due(b.journey(60, 6), -1);
        CHECK.due(b.appeal(59, 1), 7);
        CHECK.due(b.appeal(60, 1), -1);
        CHECK.due(b.journey(59, 1), 60);
        CHECK.due(b.count(11), 60);
    }

    private static void eachNumberOfAJourney() {
        CHECK.saysOfTerm(5, "a HOLDER, miles 1 to 500, people 1 to 8, reason 0 to 4");
        int[][] bounds = {{0, 1}, {1, 500}, {1, 8}, {0, 4}};
        for (int k = 0; k < bounds.length; k++) {
            for (int v = bounds[k][0] - 3; v <= bounds[k][1] + 3; v++) {
                PetrolBoard b = board("trip 7;", 1, 1);
                int[] n = {0, 1, 1, 0};
                n[k] = v;
                boolean is = v >= bounds[k][0] && v <= bounds[k][1];
                CHECK.due(b.ask(n[0], n[1], n[2], n[3], 0, 12), is ? 0 : -1);
                CHECK.due(b.journey(0, k), is ? v : -1);
                CHECK.due(b.count(11), is ? 1 : 0);
            }
        }
    }

    private static void fromATownToAnother() {
        CHECK.saysOfTerm(5, "from a TOWN to another one");
        for (int way = -12; way < 112; way++) {
            PetrolBoard b = board("trip 7;", 1);
            boolean is = way >= 0 && way < 100 && way / 10 != way % 10;
            CHECK.due(b.ask(0, 1, 1, 0, 0, way), is ? 0 : -1);
            CHECK.due(b.journey(0, 5), is ? way : -1);
            CHECK.due(b.pool(0, way, 0), is ? 1 : -1);
        }
    }

    private static void todayTo719() {
        CHECK.says(30, "A JOURNEY: its number. NONE, doing nothing: not as told (DAY TODAY to 719, unlike TOWNS), 60 are there.");
        for (int today : new int[] {0, 1, 360, 718, 719}) {
            PetrolBoard b = board("trip 7;", 1);
            b.day(today);
            CHECK.due(b.ask(0, 1, 1, 0, today - 1, 12), -1);
            CHECK.due(b.ask(0, 1, 1, 0, 720, 12), -1);
            CHECK.due(b.ask(0, 1, 1, 0, today, 12), 0);
            CHECK.due(b.ask(0, 1, 1, 0, 719, 12), 1);
            CHECK.due(b.journey(0, 4), today);
            CHECK.due(b.journey(1, 4), 719);
        }
    }

    private static int granted(String orders) {
        PetrolBoard b = board(orders, 4);
        return b.journey(b.ask(0, 100, 3, 2, 0, 12), 6);
    }

    private static void firstTrip() {
        CHECK.saysOfTerm(5, "GRANTED: what the first \"trip\" tells whose COND holds");
        CHECK.due(granted(""), 0);
        CHECK.due(granted("units 9;lend 9;"), 0);
        CHECK.due(granted("trip 5;trip 6;"), 5);
        CHECK.due(granted("trip 5 if 1=2;trip 6;"), 6);
        CHECK.due(granted("trip 5 if 1=2;trip 6 if 1=2;"), 0);
        CHECK.due(granted("trip 5 if miles=100 and people=3 and reason=2;trip 6;"), 5);
        CHECK.due(granted("trip 5 if miles<100;trip 6 if miles>100;trip 7;"), 7);
        CHECK.due(granted("units 4;trip 8;"), 8);
        PetrolBoard none = new PetrolBoard();
        none.holder(1, 0, 1, 0, 0);
        CHECK.due(none.ask(0, 1, 1, 0, 0, 12), 0);
        CHECK.due(none.journey(0, 6), 0);
        CHECK.due(none.journey(0, 7), 0);
    }

    private static void grantedOfTheDay() {
        CHECK.saysOfTerm(5, "(of the DAY's MONTH as KNOWN TODAY; CLASS on that DAY)");
        PetrolBoard b = board("trip 1+10*class;", 1);
        Check.tell(b, "trip 2+10*class+month;", 1);
        b.note(0, 3, 30);
        b.note(0, 4, 31);
        b.day(5);
        int[] days = {29, 30, 31, 59, 60, 719};
        int[] due = {1, 33, 43, 43, 44, 65};
        for (int k = 0; k < days.length; k++) {
            CHECK.due(b.journey(b.ask(0, 1, 1, 0, days[k], 12), 6), due[k]);
        }
        b.day(6);
        b.undo(1);
        Check.tell(b, "trip 7+10*class;", 1);
        CHECK.due(b.journey(b.ask(0, 1, 1, 0, 31, 12), 6), 37);
        // What was GRANTED stays.
        for (int k = 0; k < days.length; k++) {
            CHECK.due(b.journey(k, 6), due[k]);
            CHECK.due(b.journey(k, 7), due[k]);
        }
    }

    private static void grantedHeld() {
        CHECK.saysOfTerm(5, "held to 0 to 99. An APPEAL");
        for (int n : new int[] {0, 1, 98, 99, 100, 101, 999_999}) {
            CHECK.due(granted("trip " + n + ";"), Math.min(99, n));
            CHECK.due(granted("trip 0-" + n + ";"), 0);
        }
        CHECK.due(granted("trip miles;"), 99);
        CHECK.due(granted("trip miles-1;"), 99);
        CHECK.due(granted("trip miles-2;"), 98);
        PetrolBoard b = board("trip 100*reason-1;", 1);
        b.ask(0, 1, 1, 0, 0, 12);
        CHECK.due(b.journey(0, 6), 0);
        CHECK.due(b.appeal(0, 1), 99);
        CHECK.due(b.appeal(0, 2), 99);
        CHECK.due(b.appeal(0, 0), 0);
    }

    private static void appealToAnotherReason() {
        CHECK.says(31, "An APPEAL: what is GRANTED now. NONE, doing nothing: none such, no such reason.");
        PetrolBoard b = board("trip 10+reason;", 1);
        CHECK.due(b.appeal(0, 0), -1);
        b.ask(0, 1, 1, 3, 0, 12);
        b.ask(0, 1, 1, 3, 0, 12);
        for (int reason = -1; reason <= 5; reason++) {
            boolean is = reason >= 0 && reason < 5;
            CHECK.due(b.appeal(1, reason), is ? 10 + reason : -1);
            CHECK.due(b.journey(1, 6), reason < 0 ? 13 : 10 + Math.min(4, reason));
            CHECK.due(b.journey(1, 3), reason < 0 ? 3 : Math.min(4, reason));
            CHECK.due(b.journey(1, 7), 13);
        }
        CHECK.due(b.appeal(2, 0), -1);
        CHECK.due(b.appeal(-1, 0), -1);
        // Others stay.
        CHECK.due(b.journey(0, 6), 13);
        CHECK.due(b.journey(0, 3), 3);
        CHECK.due(b.count(11), 2);
    }

    private static void appealAsKnownThen() {
        CHECK.saysOfTerm(5, "it's GRANTED anew by what is KNOWN on the DAY it was asked (others stay)");
        PetrolBoard b = board("trip 10+reason+10*class;", 1);
        b.day(5);
        b.ask(0, 1, 1, 0, 100, 12);
        b.ask(0, 1, 1, 0, 100, 12);
        b.note(0, 1, 0);
        b.day(6);
        b.note(0, 2, 0);
        Check.tell(b, "trip 50+reason;", 3);
        // The NOTE told on DAY 5, behind the asking, is KNOWN on it; what was told on DAY 6 isn't.
        CHECK.due(b.appeal(0, 1), 21);
        CHECK.due(b.journey(0, 7), 10);
        CHECK.due(b.journey(1, 6), 10);
        b.undo(0);
        CHECK.due(b.appeal(0, 2), 22);
        b.day(719);
        CHECK.due(b.appeal(0, 3), 23);
        CHECK.due(b.appeal(1, 4), 24);
        // UNDONE on the DAY it was asked: KNOWN on it no more.
        PetrolBoard undone = board("trip 10+10*class;", 1);
        undone.note(0, 1, 0);
        undone.day(1);
        undone.ask(0, 1, 1, 0, 100, 12);
        CHECK.due(undone.journey(0, 6), 20);
        undone.undo(0);
        CHECK.due(undone.appeal(0, 1), 10);
        CHECK.due(undone.journey(0, 7), 20);
    }

    private static void whatOfAJourney() {
        CHECK.says(32, "5 the way (10 times from and to), 6 GRANTED, 7 GRANTED at first; 100 + k: the k-th LIKE (by numbers). NONE: none such.");
        PetrolBoard b = board("trip 9;", 1, 1);
        b.ask(1, 500, 8, 4, 719, 98);
        int[] due = {1, 500, 8, 4, 719, 98, 9, 9};
        for (int what = -2; what < 103; what++) {
            CHECK.due(b.journey(0, what), what >= 0 && what < due.length ? due[what] : -1);
            CHECK.due(b.journey(1, what), -1);
            CHECK.due(b.journey(-1, what), -1);
        }
    }

    // ---- LIKE

    private static boolean like(int own, int other) {
        PetrolBoard b = board("trip reason;", 1);
        b.ask(0, own, 1, 0, 0, 12);
        b.ask(0, other, 1, 1, 0, 12);
        // GRANTED 1 at first, then of reason 0 by other ORDERS.
        Check.tell(b, "trip 5;", 0);
        b.appeal(1, 0);
        CHECK.due(b.journey(1, 6), 5);
        CHECK.due(b.journey(0, 101), -1);
        return b.journey(0, 100) == 1;
    }

    private static void likeByTheirMiles() {
        CHECK.saysOfTerm(5, "the miles of which differ by at most a tenth of its own (cut)");
        int[][] edges = {{1, 0}, {9, 0}, {10, 1}, {19, 1}, {20, 2}, {99, 9}, {100, 10}, {109, 10}, {110, 11},
            {450, 45}, {459, 45}, {460, 46}, {490, 49}};
        for (int[] edge : edges) {
            int own = edge[0];
            int tenth = edge[1];
            CHECK.due(like(own, own), true);
            CHECK.due(own + tenth > 500 || like(own, own + tenth), true);
            CHECK.due(own + tenth + 1 <= 500 && like(own, own + tenth + 1), false);
            CHECK.due(own - tenth < 1 || like(own, own - tenth), true);
            CHECK.due(own - tenth - 1 >= 1 && like(own, own - tenth - 1), false);
        }
        CHECK.due(like(500, 450), true);
        CHECK.due(like(500, 449), false);
        CHECK.due(like(1, 500), false);
    }

    private static void likeByTheRest() {
        CHECK.saysOfTerm(5, "LIKE: another one of the same CLASS (on its DAY, as KNOWN TODAY), reason and people");
        PetrolBoard b = board("trip month;", 1, 1);
        b.note(1, 3, 40);
        b.ask(0, 100, 4, 2, 0, 12);
        b.ask(0, 100, 4, 2, 31, 34);
        b.ask(0, 100, 3, 2, 31, 12);
        b.ask(0, 100, 5, 2, 31, 12);
        b.ask(0, 100, 4, 1, 31, 12);
        b.ask(0, 100, 4, 3, 31, 12);
        b.ask(1, 100, 4, 2, 39, 12);
        b.ask(1, 100, 4, 2, 40, 12);
        b.ask(0, 100, 4, 2, 29, 12);
        likes(b, 0, 1, 6);
        likes(b, 7);
        likes(b, 8, 1, 6);
        likes(b, 1, 0, 8);
        b.day(3);
        b.note(0, 3, 0);
        b.note(0, 0, 31);
        // DAYS 0 and 29 are of CLASS 3 now, like DAY 40 of the other one.
        likes(b, 0, 7);
        likes(b, 7, 0, 8);
        likes(b, 1);
        b.day(4);
        b.undo(1);
        likes(b, 0, 1, 6);
    }

    private static void likes(PetrolBoard b, int own, int... due) {
        for (int k = 0; k < due.length; k++) {
            CHECK.due(b.journey(own, 100 + k), due[k]);
        }
        CHECK.due(b.journey(own, 100 + due.length), -1);
        CHECK.due(b.journey(own, 99), -1);
    }

    private static void kthLike() {
        CHECK.saysOfTerm(5, "that was GRANTED another number");
        PetrolBoard b = board("trip month;", 1);
        b.ask(0, 100, 1, 0, 30, 12);
        CHECK.due(b.journey(0, 100), -1);
        for (int j = 1; j < 60; j++) {
            b.ask(0, 100, 1, 0, 60, 12);
        }
        for (int k = 0; k < 59; k++) {
            CHECK.due(b.journey(0, 100 + k), k + 1);
            CHECK.due(b.journey(k + 1, 100), 0);
            CHECK.due(b.journey(k + 1, 101), -1);
        }
        CHECK.due(b.journey(0, 159), -1);
        CHECK.due(b.journey(0, 160), -1);
        CHECK.due(b.journey(0, Integer.MAX_VALUE), -1);
        // What is GRANTED now, not at first.
        PetrolBoard now = board("trip 7*reason;", 1);
        now.ask(0, 100, 1, 0, 0, 12);
        now.ask(0, 100, 1, 1, 0, 12);
        likes(now, 0);
        now.appeal(1, 0);
        likes(now, 0);
        Check.tell(now, "trip 9;", 0);
        now.appeal(1, 0);
        likes(now, 0, 1);
        likes(now, 1, 0);
        now.appeal(0, 0);
        likes(now, 0);
        likes(now, 1);
    }

    // ---- POOLS

    private static void pooled(PetrolBoard b, int day, int way, int... due) {
        for (int what = 0; what < 4; what++) {
            CHECK.due(b.pool(day, way, what), due.length == 1 ? due[0] : due[what]);
        }
        CHECK.due(b.pool(day, way, -1), -1);
        CHECK.due(b.pool(day, way, 4), -1);
    }

    private static void poolOfThen() {
        CHECK.says(33, "NONE: none such, no JOURNEY, they have not SEATS.");
        PetrolBoard b = board("", 4, 1);
        pooled(b, 0, 12, -1);
        b.ask(0, 10, 4, 0, 5, 12);
        pooled(b, 5, 12, 1, 10, 1, 4);
        pooled(b, 4, 12, -1);
        pooled(b, 6, 12, -1);
        pooled(b, 5, 21, -1);
        pooled(b, 5, 13, -1);
        pooled(b, -1, 12, -1);
        pooled(b, 720, 12, -1);
        pooled(b, 5, 11, -1);
        // One more than SEATS.
        b.ask(1, 10, 2, 0, 5, 12);
        pooled(b, 5, 12, -1);
        b.ask(1, 20, 1, 0, 5, 12);
        b.ask(1, 7, 8, 0, 719, 1);
        pooled(b, 5, 12, -1);
        pooled(b, 719, 1, -1);
        b.ask(0, 30, 1, 0, 5, 12);
        pooled(b, 5, 12, 2, 40, 9, 8);
        // The HOLDER's TOWN doesn't matter, nor TODAY.
        b.day(719);
        pooled(b, 5, 12, 2, 40, 9, 8);
    }

    private static void firstTwelve() {
        CHECK.saysOfTerm(5, "of JOURNEYS then (the first 12)");
        PetrolBoard b = board("", 1, 8);
        b.ask(1, 1, 8, 0, 5, 13);
        for (int k = 0; k < 12; k++) {
            b.ask(1, 1, 8, 0, 4, 12);
            b.ask(0, 10, 1, 0, 5, 12);
            pooled(b, 5, 12, k + 1, 10 * (k + 1), (1 << k + 1) - 1, k + 1);
        }
        b.ask(1, 1, 8, 0, 5, 12);
        b.ask(0, 1, 1, 0, 5, 12);
        pooled(b, 5, 12, 12, 120, 4095, 12);
        // The twelfth counts: its SEATS, its people, its bit.
        PetrolBoard last = board("", 1, 8);
        for (int k = 0; k < 11; k++) {
            last.ask(0, 10, 1, 0, 5, 12);
        }
        last.ask(1, 500, 8, 0, 5, 12);
        pooled(last, 5, 12, 12, 610, 4095, 19);
        PetrolBoard big = board("", 1, 8);
        for (int k = 0; k < 7; k++) {
            big.ask(0, 10, 1, 0, 5, 12);
        }
        big.ask(1, 500, 1, 0, 5, 12);
        pooled(big, 5, 12, 1, 500, 128, 8);
    }

    private static void asFewAsHaveSeats() {
        CHECK.saysOfTerm(5, "of their cars (a car a JOURNEY) as few as have SEATS for all people");
        // 4 SEATS are just enough for 4: one car, though the other would be nearer.
        int[][] due = {{1, 100, 1, 3}, {1, 100, 1, 4}, {2, 101, 3, 5}};
        for (int people = 1; people <= 3; people++) {
            PetrolBoard b = board("", 4, 2);
            b.ask(0, 100, people, 0, 0, 12);
            b.ask(1, 1, 2, 0, 0, 12);
            pooled(b, 0, 12, due[people - 1]);
        }
        PetrolBoard two = board("", 2, 2, 4);
        two.ask(0, 1, 2, 0, 0, 12);
        two.ask(1, 1, 1, 0, 0, 12);
        two.ask(2, 500, 1, 0, 0, 12);
        pooled(two, 0, 12, 1, 500, 4, 4);
        // One HOLDER's two JOURNEYS are two cars.
        PetrolBoard same = board("", 3);
        same.ask(0, 5, 3, 0, 0, 12);
        same.ask(0, 6, 3, 0, 0, 12);
        pooled(same, 0, 12, 2, 11, 3, 6);
    }

    private static void leastSumThenLeastNumber() {
        CHECK.saysOfTerm(5, "of as few those of the least sum of miles times SIZE; of such the least number (bits)");
        PetrolBoard b = new PetrolBoard();
        b.holder(9, 0, 8, 0, 0);
        b.holder(1, 0, 8, 0, 0);
        b.holder(2, 0, 8, 0, 0);
        b.ask(0, 10, 1, 0, 0, 12);
        pooled(b, 0, 12, 1, 90, 1, 1);
        b.ask(1, 90, 1, 0, 0, 12);
        pooled(b, 0, 12, 1, 90, 1, 2);
        b.ask(2, 44, 1, 0, 0, 12);
        pooled(b, 0, 12, 1, 88, 4, 3);
        b.ask(1, 88, 1, 0, 0, 12);
        pooled(b, 0, 12, 1, 88, 4, 4);
        b.ask(1, 87, 1, 0, 0, 12);
        pooled(b, 0, 12, 1, 87, 16, 5);
        PetrolBoard alike = board("", 4);
        for (int k = 1; k <= 5; k++) {
            alike.ask(0, 100, 3, 0, 0, 12);
            int cars = (3 * k + 3) / 4;
            pooled(alike, 0, 12, cars, 100 * cars, (1 << cars) - 1, 3 * k);
        }
        PetrolBoard most = new PetrolBoard();
        most.holder(9, 0, 1, 0, 0);
        for (int k = 0; k < 12; k++) {
            most.ask(0, 500, 1, 0, 0, 12);
        }
        pooled(most, 0, 12, 12, 54_000, 4095, 12);
    }

    // ---- OTHER WAYS

    private static void dealt(PetrolBoard b, int way, int month, int... due) {
        for (int h = 0; h < due.length; h++) {
            CHECK.due(b.other(way, month, h, 0), due[h]);
        }
        CHECK.due(b.other(way, month, due.length, 0), -1);
    }

    private static void together() {
        CHECK.saysOfTerm(5, "OTHER WAYS to deal the UNITS that all HOLDERS get for a MONTH (as KNOWN TODAY) together");
        PetrolBoard b = Check.ordered("units 10+class;stop size=9;");
        b.holder(1, 0, 1, 1, 99);
        b.holder(9, 0, 1, 2, 7);
        b.holder(1, 0, 1, 3, 5);
        // One who is stopped brings nothing and still shares.
        dealt(b, 0, 0, 10, 0, 10);
        dealt(b, 1, 0, 6, 6, 6);
        dealt(b, 2, 0, 8, 7, 5);
        b.day(1);
        b.note(0, 4, 31);
        b.note(2, 4, 60);
        dealt(b, 1, 0, 6, 6, 6);
        dealt(b, 1, 1, 6, 6, 6);
        dealt(b, 1, 2, 9, 9, 9);
        b.undo(0);
        dealt(b, 1, 2, 8, 8, 8);
        dealt(b, 2, 2, 12, 7, 5);
        // Dealing changes no UNITS.
        CHECK.due(b.units(0, 2, 1), 10);
        CHECK.due(b.units(1, 2, 1), 0);
        dealt(b, 0, 2, 10, 0, 14);
    }

    private static void asTheyAre() {
        CHECK.saysOfTerm(5, "0 as they are");
        PetrolBoard b = Check.ordered("units 100*size-150+month;");
        b.holder(1, 0, 1, 0, 0);
        b.holder(2, 0, 1, 0, 0);
        dealt(b, 0, 0, 0, 50);
        dealt(b, 0, 23, 0, 73);
        Check.tell(b, "units 99;", 23);
        dealt(b, 0, 22, 0, 72);
        dealt(b, 0, 23, 99, 99);
    }

    private static void alike() {
        CHECK.saysOfTerm(5, "1 alike: each the sum by HOLDERS, cut");
        PetrolBoard b = Check.ordered("units town;");
        b.holder(1, 9, 1, 0, 0);
        dealt(b, 1, 0, 9);
        b.holder(1, 0, 1, 0, 0);
        dealt(b, 1, 0, 4, 4);
        b.holder(1, 0, 1, 0, 0);
        dealt(b, 1, 0, 3, 3, 3);
        b.holder(1, 2, 1, 0, 0);
        dealt(b, 1, 0, 2, 2, 2, 2);
        b.holder(1, 4, 1, 0, 0);
        dealt(b, 1, 0, 3, 3, 3, 3, 3);
        PetrolBoard all = Check.ordered("units 99;");
        for (int h = 0; h < 30; h++) {
            all.holder(1, 0, 1, 0, 0);
        }
        CHECK.due(all.other(1, 23, 29, 0), 99);
        Check.tell(all, "", 0);
        CHECK.due(all.other(1, 23, 29, 0), 0);
    }

    private static void sold() {
        CHECK.saysOfTerm(5, "2 sold: by BID (the greatest first, of as much by numbers) each NEED, or what is left");
        for (int units = 0; units < 8; units++) {
            PetrolBoard b = Check.ordered("units " + units + ";");
            b.holder(1, 0, 1, 5, 6);
            b.holder(1, 0, 1, 999, 7);
            b.holder(1, 0, 1, 5, 4);
            b.holder(1, 0, 1, 0, 9);
            int left = 4 * units;
            int first = Math.min(left, 7);
            int second = Math.min(left - first, 6);
            int third = Math.min(left - first - second, 4);
            dealt(b, 2, 0, second, first, third, Math.min(left - first - second - third, 9));
        }
        // One who needs nothing gets nothing; what nobody needs is left over.
        PetrolBoard none = Check.ordered("units 99;");
        none.holder(1, 0, 1, 9, 0);
        none.holder(1, 0, 1, 8, 99);
        dealt(none, 2, 0, 0, 99);
        PetrolBoard one = Check.ordered("units 10;");
        for (int h = 0; h < 30; h++) {
            one.holder(1, 0, 1, h, 99);
        }
        for (int h = 0; h < 30; h++) {
            CHECK.due(one.other(2, 0, h, 0), h >= 27 ? 99 : h == 26 ? 3 : 0);
        }
    }

    private static void stays() {
        CHECK.saysOfTerm(5, "STAYS: who has at least NEED");
        int[] needs = {0, 4, 5, 6, 99};
        PetrolBoard b = Check.ordered("units 5;");
        for (int need : needs) {
            b.holder(1, 0, 1, 0, need);
        }
        for (int h = 0; h < needs.length; h++) {
            CHECK.due(b.other(0, 0, h, 1), needs[h] <= 5 ? 1 : 0);
            CHECK.due(b.other(1, 0, h, 1), needs[h] <= 5 ? 1 : 0);
            CHECK.due(b.other(2, 0, h, 1), needs[h] <= 6 ? 1 : 0);
        }
        CHECK.due(b.stays(0, 0), 3);
        CHECK.due(b.stays(1, 0), 3);
        CHECK.due(b.stays(2, 0), 4);
        CHECK.says(35, "How many STAY by a way for a MONTH. NONE: none such.");
        PetrolBoard none = new PetrolBoard();
        for (int way = -1; way <= 3; way++) {
            for (int month : new int[] {-1, 0, 23, 24}) {
                boolean is = way >= 0 && way < 3 && month >= 0 && month < 24;
                CHECK.due(none.stays(way, month), is ? 0 : -1);
                CHECK.due(b.stays(way, month) >= 0, is);
                CHECK.due(b.other(way, month, 4, 1) >= 0, is);
                CHECK.due(none.other(way, month, 0, 1), -1);
            }
        }
        PetrolBoard all = Check.ordered("units 7;");
        for (int h = 0; h < 30; h++) {
            all.holder(1, 0, 1, 0, 7);
            CHECK.due(all.stays(h % 3, 0), h + 1);
        }
    }

    // ---- FORETOLD

    private static void foretoldMonths() {
        CHECK.says(36, "FORETOLD (n 1 to 12, MONTHS up to 23). -2,000,000,000: none such.");
        for (int today : new int[] {0, 29, 30, 359, 360, 389, 390, 660, 689, 690, 719}) {
            PetrolBoard b = Check.ordered("units 10;");
            b.holder(1, 0, 1, 0, 0);
            b.port(50);
            b.day(today);
            for (int n = -1; n < 26; n++) {
                boolean is = n >= 1 && n <= 12 && today / 30 + n - 1 <= 23;
                CHECK.due(b.foretold(n, true), is ? 5000 - 10 * n : NO_AMOUNT);
                CHECK.due(b.foretold(n, false), is ? 5000 : NO_AMOUNT);
            }
        }
    }

    private static void foretoldOfLoads() {
        CHECK.saysOfTerm(5, "FORETOLD: of PORTS' loads, 100 gallons each, what is left behind n MONTHS from this one on");
        PetrolBoard b = new PetrolBoard();
        CHECK.due(b.foretold(12, true), 0);
        int[] loads = {0, 1, 50, 49};
        int[] due = {0, 100, 5100, 10_000};
        for (int p = 0; p < loads.length; p++) {
            b.port(loads[p]);
            CHECK.due(b.foretold(1, true), due[p]);
            CHECK.due(b.foretold(12, false), due[p]);
        }
        // What STATIONS want, and what is POURED and DELIVERED, doesn't count.
        b.station();
        b.want(0, 20);
        b.road(2, 0, 5);
        b.deliver(0, 100_000);
        b.holder(1, 0, 1, 0, 0);
        b.pour(0, 0, 1);
        CHECK.due(b.foretold(12, true), 10_000);
        // From this MONTH on: what was used ahead of it doesn't count.
        PetrolBoard later = Check.ordered("units 10;");
        later.holder(1, 0, 1, 0, 0);
        later.port(1);
        Check.tell(later, "", 2);
        CHECK.due(later.foretold(1, true), 90);
        CHECK.due(later.foretold(2, true), 80);
        CHECK.due(later.foretold(3, true), 80);
        later.day(30);
        CHECK.due(later.foretold(1, true), 90);
        CHECK.due(later.foretold(12, true), 90);
        later.day(60);
        CHECK.due(later.foretold(1, true), 100);
    }

    private static void foretoldCutUp() {
        CHECK.saysOfTerm(5, "at each MONTH's WORTH; all tenths together by 10, cut up");
        for (int tenths = 0; tenths <= 31; tenths++) {
            PetrolBoard b = Check.ordered(tenths == 0 ? "" : "units 1;worth " + tenths + ";");
            b.holder(1, 0, 1, 0, 0);
            b.port(1);
            CHECK.due(b.foretold(1, true), 100 - (tenths + 9) / 10);
            CHECK.due(b.foretold(2, true), 100 - (2 * tenths + 9) / 10);
            // Of two HOLDERS and three MONTHS: together, not each by itself.
            b.holder(1, 0, 1, 0, 0);
            CHECK.due(b.foretold(3, true), 100 - (6 * tenths + 9) / 10);
        }
        PetrolBoard b = Check.ordered("units 1;worth 4;");
        b.holder(1, 0, 1, 0, 0);
        b.port(1);
        Check.tell(b, "units 3;worth 2;", 2);
        Check.tell(b, "units 1;worth 1;", 3);
        int[] due = {99, 99, 98, 98, 98, 98, 98, 98, 98, 97};
        for (int n = 1; n <= due.length; n++) {
            CHECK.due(b.foretold(n, true), due[n - 1]);
        }
    }

    private static void foretoldKinds() {
        CHECK.saysOfTerm(5, "if all HOLDERS use all their UNITS (as KNOWN TODAY, at each MONTH's WORTH");
        CHECK.saysOfTerm(5, "with or without CLASS 0");
        PetrolBoard b = Check.ordered("units 10+class;");
        b.holder(1, 0, 1, 0, 0);
        b.holder(1, 0, 1, 0, 0);
        b.port(1);
        // CLASS on each MONTH's first DAY: from DAY 30 on it's in MONTH 1, from DAY 31 on in MONTH 2.
        b.note(0, 1, 30);
        b.note(1, 4, 31);
        b.note(1, 0, 91);
        int[] with = {80, 59, 34, 9, -12};
        int[] without = {100, 89, 64, 39, 28};
        for (int n = 1; n <= with.length; n++) {
            CHECK.due(b.foretold(n, true), with[n - 1]);
            CHECK.due(b.foretold(n, false), without[n - 1]);
        }
        b.day(1);
        b.undo(0);
        CHECK.due(b.foretold(2, false), 100);
        CHECK.due(b.foretold(2, true), 60);
        // Of this MONTH, too, by what is KNOWN TODAY, not by what was as it began.
        PetrolBoard late = new PetrolBoard();
        late.holder(1, 0, 1, 0, 0);
        late.port(1);
        late.note(0, 3, 0);
        late.day(29);
        CHECK.due(late.foretold(1, false), 100);
        Check.tell(late, "units 10+class;worth 20;", 0);
        CHECK.due(late.foretold(1, true), 74);
        CHECK.due(late.foretold(1, false), 74);
        late.undo(0);
        CHECK.due(late.foretold(1, true), 80);
        CHECK.due(late.foretold(1, false), 100);
    }

    private static void foretoldBelow() {
        CHECK.saysOfTerm(5, "(below 0, too; -1,999,999,999 at least)");
        PetrolBoard b = Check.ordered("units 10;");
        b.holder(1, 0, 1, 0, 0);
        b.port(1);
        CHECK.due(b.foretold(9, true), 10);
        CHECK.due(b.foretold(10, true), 0);
        CHECK.due(b.foretold(11, true), -10);
        // 30 HOLDERS' 99 UNITS in 12 MONTHS, 35,640 in all: WORTH that brings it to the bound and over it.
        int[] worth = {561_166, 561_167, 561_168, 561_169, 999_999};
        for (int w : worth) {
            PetrolBoard much = Check.ordered("units 99;worth " + w + ";");
            for (int h = 0; h < 30; h++) {
                much.holder(1, 0, 1, 0, 0);
            }
            long gallons = 35_640L * w / 10;
            CHECK.due(much.foretold(12, true), Math.max(-1_999_999_999, -gallons));
            much.port(50);
            CHECK.due(much.foretold(12, true), Math.max(-1_999_999_999, 5000 - gallons));
            CHECK.due(much.foretold(12, false), 5000);
        }
    }

    private static void counts() {
        CHECK.says(37, "0 TODAY, 1 HOLDERS, 2 NOTES, 3 ORDERS, 4 BOOKS, 5 STATIONS, 6 POURS, 7 GOOD ones, 8 others that are JUDGED, 9 LENT, 10 PORTS, 11 JOURNEYS, 12 bytes on the tape. NONE for others.");
        PetrolBoard b = new PetrolBoard();
        Twin.some(b);
        int[] due = {35, 3, 3, 1, 2, 2, 5, 2, 1, 1, 2, 4, 20};
        for (int what = -3; what < 20; what++) {
            CHECK.due(b.count(what), what >= 0 && what < due.length ? due[what] : -1);
        }
    }
}
