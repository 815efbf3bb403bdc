import java.util.Random;

/** Promises 30 to 33: JOURNEYS, APPEALS, those LIKE them and POOLS. */
public final class JourneysTest {
    private static final Check CHECK = new Check("JourneysTest");

    public static void main(String[] args) {
        ask();
        askSixty();
        granted();
        grantedByTheDaysMonth();
        appeal();
        appealAsKnownThen();
        journey();
        like();
        likeByClass();
        pool();
        poolOfTwelve();
        poolAgainstAllSets();
        CHECK.finish();
    }

    private static PetrolBoard board(String orders) {
        PetrolBoard b = Check.ordered(orders);
        b.holder(3, 7, 4, 0, 0);
        b.holder(5, 2, 2, 0, 0);
        return b;
    }

    private static void ask() {
        CHECK.promise("promise 30");
        PetrolBoard b = board("trip 7;");
        b.day(10);
        int[][] wrong = {
            {-1, 1, 1, 0, 10, 12}, {2, 1, 1, 0, 10, 12}, {0, 0, 1, 0, 10, 12}, {0, 501, 1, 0, 10, 12},
            {0, 1, 0, 0, 10, 12}, {0, 1, 9, 0, 10, 12}, {0, 1, 1, -1, 10, 12}, {0, 1, 1, 5, 10, 12},
            {0, 1, 1, 0, 9, 12}, {0, 1, 1, 0, 720, 12}, {0, 1, 1, 0, -1, 12}, {0, 1, 1, 0, 10, -1},
            {0, 1, 1, 0, 10, 100}, {0, 1, 1, 0, 10, 0}, {0, 1, 1, 0, 10, 99}, {0, 1, 1, 0, 10, 44},
            {0, 1, 1, 0, 10, -12}, {0, 1, 1, 0, 10, Integer.MIN_VALUE},
        };
        for (int[] w : wrong) {
            CHECK.due(b.ask(w[0], w[1], w[2], w[3], w[4], w[5]), -1);
        }
        CHECK.due(b.count(11), 0);
        CHECK.due(b.ask(0, 1, 1, 0, 10, 1), 0);
        CHECK.due(b.ask(1, 500, 8, 4, 719, 98), 1);
        CHECK.due(b.count(11), 2);
    }

    private static void askSixty() {
        CHECK.promise("promise 30, sixty JOURNEYS");
        PetrolBoard b = board("trip 7;");
        for (int k = 0; k < 60; k++) {
            CHECK.due(b.ask(0, 1, 1, 0, 10, 12), k);
        }
        CHECK.due(b.ask(0, 1, 1, 0, 10, 12), -1);
        CHECK.due(b.count(11), 60);
        CHECK.due(b.journey(59, 6), 7);
    }

    private static int grantedBy(String orders, int holder, int miles, int people, int reason) {
        PetrolBoard b = board(orders);
        int j = b.ask(holder, miles, people, reason, 65, 34);
        CHECK.due(b.journey(j, 6), b.journey(j, 7));
        return b.journey(j, 6);
    }

    private static void granted() {
        CHECK.promise("promise 30, GRANTED");
        CHECK.due(grantedBy("", 0, 100, 3, 2), 0);
        CHECK.due(grantedBy("units 5;", 0, 100, 3, 2), 0);
        CHECK.due(grantedBy("units 5;trip 6;", 0, 100, 3, 2), 6);
        CHECK.due(grantedBy("trip miles/10+people*5+reason;", 0, 100, 3, 2), 27);
        CHECK.due(grantedBy("trip size*10+town;", 0, 100, 3, 2), 37);
        CHECK.due(grantedBy("trip size*10+town;", 1, 100, 3, 2), 52);
        CHECK.due(grantedBy("trip month;", 0, 100, 3, 2), 2);
        CHECK.due(grantedBy("trip class+1;", 0, 100, 3, 2), 1);
        CHECK.due(grantedBy("trip miles;", 0, 100, 3, 2), 99);
        CHECK.due(grantedBy("trip 0-miles;", 0, 100, 3, 2), 0);
        CHECK.due(grantedBy("trip 1 if people<3;trip 2 if people=3;trip 3;", 0, 100, 3, 2), 2);
        CHECK.due(grantedBy("trip 1 if people<3;trip 2 if people>3;", 0, 100, 3, 2), 0);
        CHECK.due(grantedBy("trip 1;trip 2;", 0, 100, 3, 2), 1);
        // UNITS behind a JOURNEY have no miles, people and reason.
        PetrolBoard b = board("units 5+miles+people+reason;trip miles+people+reason;");
        b.ask(0, 20, 3, 2, 0, 12);
        CHECK.due(b.journey(0, 6), 25);
        CHECK.due(b.units(0, 0, 0), 5);
        // "stop" is for UNITS alone.
        CHECK.due(grantedBy("stop 1=1;trip 8;", 0, 100, 3, 2), 8);
    }

    private static void grantedByTheDaysMonth() {
        CHECK.promise("promise 30, the DAY's MONTH and CLASS on that DAY");
        PetrolBoard b = board("trip 1+10*class;");
        Check.tell(b, "trip 2+10*class;", 2);
        b.note(0, 1, 62);
        b.ask(0, 1, 1, 0, 59, 1);
        b.ask(0, 1, 1, 0, 60, 1);
        b.ask(0, 1, 1, 0, 61, 1);
        b.ask(0, 1, 1, 0, 62, 1);
        int[] due = {1, 2, 2, 12};
        for (int j = 0; j < 4; j++) {
            CHECK.due(b.journey(j, 6), due[j]);
        }
        // GRANTED stays as it was, whatever is told later.
        Check.tell(b, "trip 50;", 2);
        b.undo(0);
        CHECK.due(b.journey(3, 6), 12);
        CHECK.due(b.ask(0, 1, 1, 0, 62, 1), 4);
        CHECK.due(b.journey(4, 6), 50);
    }

    private static void appeal() {
        CHECK.promise("promise 31");
        PetrolBoard b = board("trip 10+reason;");
        b.ask(0, 100, 3, 0, 5, 12);
        b.ask(0, 100, 3, 1, 5, 12);
        CHECK.due(b.appeal(-1, 1), -1);
        CHECK.due(b.appeal(2, 1), -1);
        CHECK.due(b.appeal(0, -1), -1);
        CHECK.due(b.appeal(0, 5), -1);
        CHECK.due(b.journey(0, 6), 10);
        CHECK.due(b.journey(0, 3), 0);
        CHECK.due(b.appeal(0, 4), 14);
        CHECK.due(b.journey(0, 3), 4);
        CHECK.due(b.journey(0, 6), 14);
        CHECK.due(b.journey(0, 7), 10);
        CHECK.due(b.appeal(0, 2), 12);
        CHECK.due(b.journey(0, 7), 10);
        CHECK.due(b.journey(1, 6), 11);
        CHECK.due(b.journey(1, 3), 1);
        CHECK.due(b.count(11), 2);
    }

    private static void appealAsKnownThen() {
        CHECK.promise("promise 31, what is KNOWN on the DAY it was asked");
        PetrolBoard b = board("trip 10+reason+10*class;");
        b.note(0, 1, 0);
        b.day(4);
        b.ask(0, 100, 3, 0, 40, 12);
        b.ask(0, 100, 3, 0, 40, 12);
        CHECK.due(b.journey(0, 6), 20);
        // Told on that DAY, though behind the asking: KNOWN by it.
        b.note(0, 2, 40);
        Check.tell(b, "trip 50+reason+10*class;", 1);
        CHECK.due(b.appeal(1, 1), 71);
        b.day(5);
        Check.tell(b, "trip 1;", 1);
        b.note(0, 3, 40);
        b.undo(1);
        b.undo(0);
        CHECK.due(b.appeal(0, 2), 72);
        CHECK.due(b.journey(1, 6), 71);
        CHECK.due(b.journey(0, 7), 20);
        b.day(700);
        CHECK.due(b.appeal(0, 3), 73);
    }

    private static void journey() {
        CHECK.promise("promise 32");
        PetrolBoard b = board("trip 9;");
        CHECK.due(b.journey(0, 0), -1);
        b.ask(1, 123, 7, 3, 50, 90);
        int[] due = {1, 123, 7, 3, 50, 90, 9, 9, -1};
        for (int what = 0; what < due.length; what++) {
            CHECK.due(b.journey(0, what), due[what]);
        }
        CHECK.due(b.journey(0, -1), -1);
        CHECK.due(b.journey(0, 99), -1);
        CHECK.due(b.journey(0, 100), -1);
        CHECK.due(b.journey(0, Integer.MAX_VALUE), -1);
        CHECK.due(b.journey(0, Integer.MIN_VALUE), -1);
        CHECK.due(b.journey(1, 0), -1);
        CHECK.due(b.journey(-1, 0), -1);
    }

    private static void likes(PetrolBoard b, int own, int... due) {
        for (int k = 0; k < due.length; k++) {
            CHECK.due(b.journey(own, 100 + k), due[k]);
        }
        CHECK.due(b.journey(own, 100 + due.length), -1);
    }

    private static void like() {
        CHECK.promise("promise 32, LIKE");
        PetrolBoard b = board("trip miles-90;");
        b.ask(0, 100, 3, 0, 5, 12);
        b.ask(1, 110, 3, 0, 9, 34);
        b.ask(0, 111, 3, 0, 5, 12);
        b.ask(0, 105, 2, 0, 5, 12);
        b.ask(0, 105, 3, 1, 5, 12);
        b.ask(0, 100, 3, 0, 6, 12);
        b.ask(0, 90, 3, 0, 5, 12);
        b.ask(0, 89, 3, 0, 5, 12);
        b.ask(0, 5, 3, 0, 5, 12);
        // GRANTED 10, 20, 21, 15, 15, 10, 0, 0, 0; a tenth of its own miles, cut.
        likes(b, 0, 1, 6);
        likes(b, 1, 0, 2, 5);
        likes(b, 2, 0, 1, 5);
        likes(b, 3);
        likes(b, 6);
        likes(b, 8);
        // They differ by 9: a tenth of 98, cut, but more than a tenth of 89.
        b.ask(0, 98, 3, 0, 5, 12);
        likes(b, 7);
        likes(b, 9, 0, 5, 6, 7);
    }

    private static void likeByClass() {
        CHECK.promise("promise 32, LIKE by CLASS");
        PetrolBoard b = board("trip miles;");
        b.note(1, 1, 50);
        b.ask(0, 50, 1, 0, 60, 12);
        b.ask(1, 51, 1, 0, 60, 12);
        b.ask(1, 52, 1, 0, 49, 12);
        likes(b, 0, 2);
        likes(b, 1);
        likes(b, 2, 0);
        b.day(10);
        b.note(0, 1, 55);
        likes(b, 0, 1);
        likes(b, 1, 0);
        likes(b, 2);
        // As KNOWN TODAY.
        b.day(11);
        b.undo(0);
        b.undo(1);
        likes(b, 0, 1, 2);
        b.appeal(2, 1);
        likes(b, 0, 1);
        b.appeal(1, 1);
        likes(b, 0);
        likes(b, 1, 2);
    }

    private static void pool() {
        CHECK.promise("promise 33");
        PetrolBoard b = board("");
        b.holder(1, 0, 8, 0, 0);
        CHECK.due(b.pool(5, 12, 0), -1);
        b.ask(0, 100, 3, 0, 5, 12);
        int[] one = {1, 300, 1, 3};
        for (int what = 0; what < 4; what++) {
            CHECK.due(b.pool(5, 12, what), one[what]);
        }
        b.ask(1, 10, 4, 0, 5, 12);
        // 6 SEATS for 7: not so, whatever is asked.
        for (int what = 0; what < 4; what++) {
            CHECK.due(b.pool(5, 12, what), -1);
        }
        b.ask(2, 20, 1, 0, 6, 12);
        b.ask(2, 20, 1, 0, 5, 21);
        CHECK.due(b.pool(5, 12, 0), -1);
        b.ask(2, 500, 1, 0, 5, 12);
        int[] three = {1, 500, 4, 8};
        for (int what = 0; what < 4; what++) {
            CHECK.due(b.pool(5, 12, what), three[what]);
        }
        CHECK.due(b.pool(6, 12, 1), 20);
        CHECK.due(b.pool(5, 21, 3), 1);
        CHECK.due(b.pool(5, 12, 4), -1);
        CHECK.due(b.pool(5, 12, -1), -1);
        CHECK.due(b.pool(5, 11, 0), -1);
        CHECK.due(b.pool(5, 112, 0), -1);
        CHECK.due(b.pool(5, -12, 0), -1);
        CHECK.due(b.pool(-1, 12, 0), -1);
        CHECK.due(b.pool(720, 12, 0), -1);
        // Of as few and as little the least number.
        PetrolBoard alike = board("");
        for (int k = 0; k < 4; k++) {
            alike.ask(0, 100, 2, 0, 5, 12);
        }
        int[] two = {2, 600, 3, 8};
        for (int what = 0; what < 4; what++) {
            CHECK.due(alike.pool(5, 12, what), two[what]);
        }
        // Past DAYS can be asked for, too.
        alike.day(100);
        CHECK.due(alike.pool(5, 12, 2), 3);
    }

    private static void poolOfTwelve() {
        CHECK.promise("promise 33, the first twelve");
        PetrolBoard b = new PetrolBoard();
        b.holder(9, 0, 1, 0, 0);
        b.holder(1, 0, 8, 0, 0);
        for (int k = 0; k < 11; k++) {
            b.ask(0, 500, 1, 0, 5, 12);
            b.ask(1, 1, 1, 0, 5, 13);
        }
        CHECK.due(b.pool(5, 12, 0), 11);
        CHECK.due(b.pool(5, 12, 1), 11 * 4500);
        b.ask(0, 500, 1, 0, 5, 12);
        CHECK.due(b.pool(5, 12, 2), 4095);
        CHECK.due(b.pool(5, 12, 1), 12 * 4500);
        // The thirteenth brings neither its car nor its people.
        b.ask(1, 1, 8, 0, 5, 12);
        CHECK.due(b.pool(5, 12, 0), 12);
        CHECK.due(b.pool(5, 12, 3), 12);
        CHECK.due(b.pool(5, 13, 0), 2);
        CHECK.due(b.pool(5, 13, 2), 3);
        CHECK.due(b.pool(5, 13, 3), 11);
    }

    private static void poolAgainstAllSets() {
        CHECK.promise("promise 33, against all sets tried");
        Random random = new Random(3);
        for (int run = 0; run < 200; run++) {
            PetrolBoard b = new PetrolBoard();
            int number = 1 + random.nextInt(7);
            int[] seats = new int[number];
            int[] cost = new int[number];
            int people = 0;
            for (int k = 0; k < number; k++) {
                int size = 1 + random.nextInt(3);
                int miles = 1 + random.nextInt(4);
                int riding = 1 + random.nextInt(4);
                seats[k] = 1 + random.nextInt(8);
                cost[k] = size * miles;
                people += riding;
                b.holder(size, 0, seats[k], 0, 0);
                b.ask(k, miles, riding, 0, 0, 12);
            }
            int[] best = null;
            for (int set = (1 << number) - 1; set > 0; set--) {
                int sum = 0;
                int room = 0;
                for (int k = 0; k < number; k++) {
                    sum += (set >> k & 1) * cost[k];
                    room += (set >> k & 1) * seats[k];
                }
                int[] found = {Integer.bitCount(set), sum, set, people};
                if (room >= people && (best == null || java.util.Arrays.compare(found, best) < 0)) {
                    best = found;
                }
            }
            for (int what = 0; what < 4; what++) {
                CHECK.due(b.pool(0, 12, what), best == null ? -1 : best[what]);
            }
        }
    }
}
