/**
 * Calls that are refused though their numbers are good: all is full, or it was done before. Each answers as the
 * document says, and does nothing; and calls that only ask leave nothing behind.
 */
public final class RefusedTest {
    private static final Check CHECK = new Check("RefusedTest");

    public static void main(String[] args) {
        holders();
        notes();
        undone();
        days();
        tape();
        orders();
        books();
        lent();
        lentAllOfABook();
        stations();
        pours();
        deliveriesAndDips();
        ports();
        journeys();
        askingOnly();
        CHECK.finish();
    }

    private static Twin some(Twin.Telling more) {
        return new Twin(CHECK, b -> {
            Twin.some(b);
            more.tell(b);
        });
    }

    private static void holders() {
        CHECK.says(3, "NONE, doing nothing: not as told, 30 are there");
        Twin full = some(b -> {
            for (int h = 3; h < 30; h++) {
                CHECK.due(b.holder(1, 0, 1, 0, 0), h);
            }
        });
        full.idle(b -> b.holder(1, 0, 1, 0, 0), -1);
        full.idle(b -> b.holder(9, 9, 8, 999, 99), -1);
        full.idle(b -> b.holder(0, 0, 1, 0, 0), -1);
        full.due(b -> b.note(29, 1, 0), 3);
        full.due(b -> b.note(30, 1, 0), -1);
        full.due(b -> b.issue(29, 1), 5);
        full.due(b -> b.found(29), 0);
    }

    private static void notes() {
        CHECK.says(4, "NONE, doing nothing: not as told, 200 are there");
        Twin full = some(b -> {
            for (int n = 3; n < 200; n++) {
                CHECK.due(b.note(n % 3, 1, n), n);
            }
        });
        full.idle(b -> b.note(0, 1, 0), -1);
        full.idle(b -> b.note(2, 4, 719), -1);
        full.idle(b -> b.note(0, 5, 0), -1);
        // The last of them counts, and those UNDONE make no room.
        full.due(b -> b.classOf(1, 199, 35), 1);
        full.due(b -> Twin.bit(b.undo(199)), 1);
        full.due(Twin.behind(b -> Twin.bit(b.undo(199)), b -> b.note(0, 1, 0)), -1);
    }

    private static void undone() {
        CHECK.says(5, "UNDONE: true; false: none such, it is");
        Twin some = some(b -> { });
        some.idle(b -> Twin.bit(b.undo(1)), 0);
        some.idle(b -> Twin.bit(b.undo(3)), 0);
        Twin later = some(b -> b.day(36));
        later.idle(b -> Twin.bit(b.undo(1)), 0);
        Twin all = some(b -> {
            CHECK.due(b.undo(0), true);
            CHECK.due(b.undo(2), true);
        });
        for (int n = 0; n < 4; n++) {
            int note = n;
            all.idle(b -> Twin.bit(b.undo(note)), 0);
        }
    }

    private static void days() {
        CHECK.says(2, "TODAY becomes a later DAY: true; false: it isn't, above 719");
        Twin some = some(b -> { });
        for (int d = -2; d <= 35; d++) {
            int day = d;
            some.idle(b -> Twin.bit(b.day(day)), 0);
        }
        Twin last = some(b -> CHECK.due(b.day(719), true));
        for (int d = 715; d < 725; d++) {
            int day = d;
            last.idle(b -> Twin.bit(b.day(day)), 0);
        }
    }

    private static void tape() {
        CHECK.says(7, "NONE, doing nothing: there would be more than 500");
        Twin full = some(b -> {
            for (int k = 2; k <= 25; k++) {
                CHECK.due(b.feed(0, -1, 1 << 31, 7, 0x20202020), 20 * k);
            }
        });
        full.idle(b -> b.feed(0, 0, 0, 0, 0), -1);
        full.idle(b -> b.feed(0x776f7274, 0x6820373b, 0x20202020, 0x20202020, 0x20202020), -1);
        full.due(b -> b.orders(500, 0), -1);
        full.due(b -> b.orders(501, 0), -2);
        full.due(b -> b.orders(16, 0), 1);
    }

    private static void orders() {
        CHECK.says(8, "-3, doing nothing: there are 12");
        Twin full = some(b -> {
            for (int k = 1; k < 12; k++) {
                CHECK.due(Check.tell(b, "worth 2;", 23), k);
            }
            CHECK.due(Check.feed(b, "worth 0;lapse 9;lend 8;"), 23);
            CHECK.due(b.count(12), 40);
        });
        full.idle(b -> b.orders(0, 0), -3);
        full.idle(b -> b.orders(8, 23), -3);
        full.idle(b -> b.orders(40, 0), -3);
        full.idle(b -> b.orders(41, 0), -2);
        full.idle(b -> b.orders(-1, 0), -2);
        full.idle(b -> b.orders(0, 24), -2);
        full.idle(b -> b.orders(0, -1), -2);
        full.due(PetrolBoard::fault, -1);
        CHECK.says(8, "-2, doing nothing: n is below 0 or more than there are, no such MONTH");
        Twin none = some(b -> b.orders(0, 0));
        none.idle(b -> b.orders(1, 0), -2);
        none.idle(b -> b.orders(20, 0), -2);
        none.due(b -> b.orders(0, 0), 2);
    }

    private static void books() {
        CHECK.says(12, "NONE, doing nothing: none such, another MONTH, it was");
        Twin some = some(b -> {
            CHECK.due(b.issue(0, 1), 5);
            CHECK.due(b.issue(0, 2), 5);
        });
        some.idle(b -> b.issue(0, 1), -1);
        some.idle(b -> b.issue(0, 2), -1);
        some.idle(b -> b.issue(0, 0), -1);
        some.idle(b -> b.issue(2, 0), -1);
        some.idle(b -> b.issue(0, 3), -1);
        some.idle(b -> b.issue(3, 1), -1);
        some.idle(b -> b.issue(-1, 1), -1);
        // Other UNITS now: what was issued was issued.
        Twin others = some(b -> {
            b.issue(0, 1);
            b.orders(0, 1);
            CHECK.due(b.issue(2, 1), 0);
        });
        others.idle(b -> b.issue(0, 1), -1);
        others.idle(b -> b.issue(2, 1), -1);
        others.due(b -> b.owner(104), 0);
        others.due(b -> b.owner(105), -1);
        others.due(b -> b.count(4), 4);
    }

    private static void lent() {
        CHECK.says(13, "false, doing nothing: no such coupon or HOLDER, its own, LENT, HANDED IN, LEND are");
        Twin some = some(b -> { });
        // LENT: to any one, back too.
        some.idle(b -> Twin.bit(b.lend(0, 0)), 0);
        some.idle(b -> Twin.bit(b.lend(0, 1)), 0);
        some.idle(b -> Twin.bit(b.lend(0, 2)), 0);
        // HANDED IN, GOOD.
        some.idle(b -> Twin.bit(b.lend(1, 2)), 0);
        // Its own.
        some.idle(b -> Twin.bit(b.lend(2, 0)), 0);
        some.idle(b -> Twin.bit(b.lend(2400, 1)), 0);
        // No such coupon, no such HOLDER.
        some.idle(b -> Twin.bit(b.lend(5, 1)), 0);
        some.idle(b -> Twin.bit(b.lend(99_999, 1)), 0);
        some.idle(b -> Twin.bit(b.lend(2, 3)), 0);
        some.idle(b -> Twin.bit(b.lend(2, -1)), 0);
        // What is POURED on isn't HANDED IN yet.
        some.due(b -> Twin.bit(b.lend(3, 1)), 1);
        some.due(b -> Twin.bit(b.lend(2400, 0)), 1);
        Twin handed = some(b -> b.handIn(1));
        handed.idle(b -> Twin.bit(b.lend(2400, 0)), 0);
        handed.due(b -> Twin.bit(b.lend(2401, 0)), 1);
    }

    private static void lentAllOfABook() {
        CHECK.saysOfTerm(3, "of one BOOK at most LEND are (by ORDERS of its MONTH as KNOWN TODAY)");
        Twin full = some(b -> CHECK.due(b.lend(2, 1), true));
        full.idle(b -> Twin.bit(b.lend(3, 1)), 0);
        full.idle(b -> Twin.bit(b.lend(4, 2)), 0);
        full.due(b -> Twin.bit(b.lend(2400, 0)), 1);
        Twin never = new Twin(CHECK, b -> {
            Twin.some(b);
            b.orders(0, 23);
            Check.tell(b, "lend 0;", 0);
        });
        never.idle(b -> Twin.bit(b.lend(2, 1)), 0);
        never.idle(b -> Twin.bit(b.lend(2401, 2)), 0);
        Twin many = some(b -> {
            b.orders(0, 23);
            Check.tell(b, "units 99;lend 99;", 1);
            CHECK.due(b.issue(2, 1), 99);
            for (int k = 0; k < 98; k++) {
                CHECK.due(b.lend(4900 + k, 0), true);
            }
        });
        many.due(b -> Twin.bit(b.lend(4998, 1)), 1);
        many.due(b -> Twin.bit(b.lend(4999, 1)), 0);
    }

    private static void stations() {
        CHECK.says(15, "NONE: 10 are there");
        Twin full = some(b -> {
            for (int s = 2; s < 10; s++) {
                CHECK.due(b.station(), s);
            }
        });
        full.idle(PetrolBoard::station, -1);
        full.due(b -> b.dip(9, 3), 0);
        full.due(b -> b.dip(10, 3), -1);
        full.due(b -> Twin.bit(b.want(9, 3)), 1);
        full.due(b -> Twin.bit(b.want(10, 3)), 0);
        full.due(b -> Twin.bit(b.road(1, 9, 3)), 1);
        full.due(b -> Twin.bit(b.road(1, 10, 3)), 0);
        full.due(b -> b.deliver(9, 3), 3);
        full.due(b -> b.deliver(10, 3), -1);
        full.due(b -> b.pour(9, 0, 3), 5);
        full.due(b -> b.pour(10, 0, 3), -1);
        full.due(b -> b.handIn(9), 0);
        full.due(b -> b.handIn(10), -1);
    }

    private static void pours() {
        CHECK.says(16, "NONE, doing nothing: not as told, 300 are");
        Twin full = some(b -> {
            for (int p = 5; p < 300; p++) {
                CHECK.due(b.pour(p % 2, p % 3, 2), p);
            }
        });
        full.idle(b -> b.pour(0, 0, 2), -1);
        full.idle(b -> b.pour(1, 1, 99_999), -1);
        full.idle(b -> b.pour(2, 1, 5), -1);
        // STATION 0: the coupons 3 and 2 GOOD, then 2 again and again; 299 is of STATION 1.
        full.due(b -> b.handIn(0), 2);
        full.due(Twin.behind(b -> b.handIn(0), b -> b.poured(298, 5)), 2);
        full.due(Twin.behind(b -> b.handIn(0), b -> b.poured(299, 5)), -1);
        full.due(Twin.behind(b -> b.handIn(0), b -> b.count(8)), 1 + 146);
        full.due(b -> b.poured(300, 0), -1);
        // What is HANDED IN makes no room.
        full.due(Twin.behind(b -> b.handIn(0), b -> b.pour(0, 0, 2)), -1);
    }

    private static void deliveriesAndDips() {
        CHECK.says(20, "NONE, doing nothing: not as told, 30 are");
        Twin delivered = some(b -> {
            for (int k = 2; k < 30; k++) {
                CHECK.due(b.deliver(0, 1), 5059 + k);
            }
        });
        delivered.idle(b -> b.deliver(0, 1), -1);
        delivered.idle(b -> b.deliver(0, 100_000), -1);
        delivered.due(b -> b.deliver(1, 1), 5061);
        CHECK.says(21, "NONE, doing nothing: not as told, 30 are");
        Twin dipped = some(b -> {
            for (int k = 3; k < 30; k++) {
                CHECK.due(b.dip(0, 90), k);
            }
        });
        dipped.idle(b -> b.dip(0, 90), -1);
        dipped.idle(b -> b.dip(0, 200_000), -1);
        dipped.due(b -> b.dip(1, 90), 3);
        dipped.due(b -> b.in(0, 28), 0);
        dipped.due(b -> b.in(0, 29), -2_000_000_000);
        dipped.due(b -> b.sums(0, 0, 30, 0), -1);
    }

    private static void ports() {
        CHECK.says(26, "NONE, doing nothing: not as told, 4 are there");
        Twin full = some(b -> {
            CHECK.due(b.port(0), 2);
            CHECK.due(b.port(50), 3);
        });
        full.idle(b -> b.port(0), -1);
        full.idle(b -> b.port(50), -1);
        full.due(b -> Twin.bit(b.road(3, 1, 1)), 1);
        full.due(b -> Twin.bit(b.road(4, 1, 1)), 0);
        full.due(b -> b.flow(3, 0), 7);
        full.due(b -> b.flow(4, 0), -1);
        full.due(b -> b.foretold(1, false), 5889);
    }

    private static void journeys() {
        CHECK.says(30, "NONE, doing nothing: not as told (DAY TODAY to 719, unlike TOWNS), 60 are there");
        Twin full = some(b -> {
            for (int j = 4; j < 60; j++) {
                CHECK.due(b.ask(2, 110 + j, 3, 0, 60, 12), j);
            }
        });
        full.idle(b -> b.ask(2, 500, 3, 0, 60, 12), -1);
        full.idle(b -> b.ask(0, 1, 1, 0, 719, 1), -1);
        full.due(b -> b.appeal(59, 4), 20);
        full.due(b -> b.appeal(60, 4), -1);
        full.due(b -> b.journey(59, 1), 169);
        full.due(b -> b.journey(60, 1), -1);
        // From one TOWN to the same.
        Twin some = some(b -> { });
        for (int way = 0; way < 100; way += 11) {
            int same = way;
            some.idle(b -> b.ask(0, 1, 1, 0, 60, same), -1);
        }
        some.idle(b -> b.ask(0, 1, 1, 0, 34, 12), -1);
        some.due(b -> b.ask(0, 1, 1, 0, 35, 12), 4);
    }

    private static void askingOnly() {
        CHECK.promise("calls that only ask do nothing");
        Twin some = some(b -> { });
        some.idle(b -> b.classOf(1, 0, 0), 2);
        some.idle(PetrolBoard::fault, 6);
        some.idle(b -> b.rule(0, 0, 0), 7);
        some.idle(b -> b.units(1, 0, 0), 7);
        some.idle(b -> b.owner(0), 1);
        some.idle(b -> b.poured(0, 5), 0);
        some.idle(b -> b.found(1), 0);
        some.idle(b -> b.in(0, 1), 18);
        some.idle(b -> b.sums(0, 0, 2, 0), 0);
        some.idle(b -> b.judged(0, 0, 2), 5004);
        some.idle(b -> b.flow(0, 0), 4);
        some.idle(b -> b.flow(1, 1), 70);
        some.idle(b -> b.journey(0, 100), 1);
        some.idle(b -> b.pool(60, 12, 0), 1);
        some.idle(b -> b.other(1, 0, 0, 0), 6);
        some.idle(b -> b.other(2, 0, 0, 0), 0);
        some.idle(b -> b.stays(2, 0), 1);
        some.idle(b -> b.foretold(12, true), 732);
        some.idle(b -> b.count(12), 20);
        some.idle(b -> b.handIn(2), -1);
    }
}
