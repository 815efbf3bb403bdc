import java.util.ArrayList;
import java.util.Arrays;
import java.util.List;

/**
 * A state of a board, and all that other calls answer in it. A call that is refused, or one that only asks, is made
 * on a board of its own in that state, and then all others are: they must answer as if it hadn't been.
 */
final class Twin {
    /** Makes a state on a new board. */
    interface Telling {
        void tell(PetrolBoard b);
    }

    /** One call, its answer as a number (a boolean counts 1 or 0). */
    interface Call {
        long on(PetrolBoard b);
    }

    // An object is used for 512 calls: a state of 300 and these stay below.
    private static final int ASKED_AT_ONCE = 150;

    private final Check check;
    private final Telling telling;
    private final List<List<Call>> rounds = new ArrayList<>();
    private final List<long[]> answers = new ArrayList<>();

    Twin(Check check, Telling telling) {
        this.check = check;
        this.telling = telling;
        addQuestions();
        addChanges();
        for (List<Call> round : rounds) {
            answers.add(answersOf(round, null, 0));
        }
    }

    static long bit(boolean b) {
        return b ? 1 : 0;
    }

    /** What one call answers behind another. */
    static Call behind(Call first, Call then) {
        return b -> {
            first.on(b);
            return then.on(b);
        };
    }

    /** Something of all that a board holds, TODAY DAY 35: three HOLDERS, two of all else, and twenty bytes taped. */
    static void some(PetrolBoard b) {
        b.holder(3, 1, 4, 50, 10);
        b.holder(5, 2, 2, 90, 20);
        b.holder(2, 0, 8, 70, 2);
        b.note(1, 2, 0);
        b.note(0, 1, 20);
        b.note(2, 3, 0);
        Check.tell(b, "units 5+class;trip miles/10+reason;lend 2;waste 1;doubt 300000;worth 7;lapse 2;", 0);
        b.issue(0, 0);
        b.issue(1, 0);
        b.lend(0, 1);
        someStations(b);
        b.ask(2, 100, 3, 0, 60, 12);
        b.ask(2, 110, 3, 0, 60, 12);
        b.ask(0, 120, 2, 3, 35, 21);
        b.ask(2, 50, 1, 1, 60, 12);
        b.appeal(2, 1);
        Check.tell(b, "stop 1;", 0);
        Check.feed(b, "worth 3;lapse 2;");
    }

    private static void someStations(PetrolBoard b) {
        b.port(5);
        b.port(4);
        for (int s = 0; s < 2; s++) {
            b.station();
            b.dip(s, 100);
            b.deliver(s, 5000);
            b.want(s, 3 + s);
            b.road(0, s, 10 + 10 * s);
            b.level(s, 100);
        }
        b.road(1, 1, 5);
        b.level(2, 100);
        b.pour(0, 0, 1);
        b.pour(0, 1, 0);
        b.pour(0, 0, 99_999);
        b.handIn(0);
        b.dip(0, 110);
        b.dip(1, 110);
        b.pour(0, 0, 3);
        b.pour(1, 1, 2400);
        b.deliver(0, 60);
        b.deliver(1, 60);
        b.day(35);
        b.undo(1);
        b.dip(0, 100);
        b.dip(1, 90);
    }

    /** A board in the state. */
    PetrolBoard board() {
        PetrolBoard b = new PetrolBoard();
        telling.tell(b);
        return b;
    }

    /** The call answers what is due in this state, whatever it changes. */
    void due(Call call, long due) {
        check.due(call.on(board()), due);
    }

    /** The call answers what is due, and does nothing. */
    void idle(Call call, long due) {
        for (int k = 0; k < rounds.size(); k++) {
            long[] now = answersOf(rounds.get(k), call, due);
            check.due(Arrays.mismatch(now, answers.get(k)), -1);
        }
    }

    private long[] answersOf(List<Call> round, Call first, long due) {
        PetrolBoard b = board();
        if (first != null) {
            check.due(first.on(b), due);
        }
        long[] all = new long[round.size()];
        for (int k = 0; k < all.length; k++) {
            all[k] = round.get(k).on(b);
        }
        return all;
    }

    private void addQuestions() {
        List<Call> all = new ArrayList<>();
        all.add(PetrolBoard::fault);
        for (int k = -1; k < 14; k++) {
            int what = k;
            all.add(b -> b.count(what));
        }
        askOfOrders(all);
        askOfCoupons(all);
        askOfStations(all);
        askOfJourneys(all);
        for (int from = 0; from < all.size(); from += ASKED_AT_ONCE) {
            rounds.add(all.subList(from, Math.min(all.size(), from + ASKED_AT_ONCE)));
        }
    }

    private static void askOfOrders(List<Call> all) {
        int[] days = {0, 29, 30, 60, 719};
        for (int k = 0; k < 20; k++) {
            int h = k % 4;
            int day = days[k % 5];
            int known = days[k / 4];
            all.add(b -> b.classOf(h, day, known));
            all.add(b -> b.units(h, day / 30, known));
            all.add(b -> b.rule(day / 30, known, h));
        }
        for (int k = 0; k < 6; k++) {
            int what = k;
            all.add(b -> b.rule(0, b.count(0), what));
            all.add(b -> b.rule(23, 719, what));
        }
    }

    private static void askOfCoupons(List<Call> all) {
        int[] pours = {0, 1, 2, 3, 4, 5, 299, 300};
        for (int k = 0; k < 56; k++) {
            int pour = pours[k / 7];
            int what = k % 7;
            all.add(b -> b.poured(pour, what));
        }
        for (int k = 0; k < 36; k++) {
            int coupon = k / 12 * 2400 + k / 6 % 2 * 100 + k % 6;
            all.add(b -> b.owner(coupon));
        }
        for (int k = 0; k < 4; k++) {
            int h = k;
            all.add(b -> b.found(h));
        }
    }

    private static void askOfStations(List<Call> all) {
        for (int k = 0; k < 8; k++) {
            int s = k % 2;
            int i = k / 4;
            int j = i + 1 + k / 2 % 2;
            all.add(b -> b.in(s, i + j - 1));
            all.add(b -> b.sums(s, i, j, 0));
            all.add(b -> b.sums(s, i, j, 1));
            all.add(b -> b.judged(s, i, j));
        }
        for (int k = -1; k < 4; k++) {
            int shut = k;
            all.add(b -> b.flow(shut, 0));
            all.add(b -> b.flow(shut, 1));
        }
    }

    private static void askOfJourneys(List<Call> all) {
        for (int k = 0; k < 40; k++) {
            int j = k / 10;
            int what = k % 10 < 8 ? k % 10 : 92 + k % 10;
            all.add(b -> b.journey(j, what));
        }
        for (int k = 0; k < 8; k++) {
            int what = k % 4;
            int way = 12 + k / 4 * 9;
            all.add(b -> b.pool(b.count(0), way, what));
            all.add(b -> b.pool(60, way, what));
        }
        for (int k = 0; k < 12; k++) {
            int way = k % 3;
            int h = k / 3;
            all.add(b -> b.other(way, 1, h, 0));
            all.add(b -> b.other(way, 1, h, 1));
            all.add(b -> b.stays(way, h));
            all.add(b -> b.foretold(h + 1, way == 0));
        }
    }

    /** What is hidden comes out by going on: the tape's bytes, the next numbers, what can still be done. */
    private void addChanges() {
        List<Call> all = new ArrayList<>();
        all.add(b -> b.orders(20, 1));
        all.add(b -> b.rule(1, b.count(0), 0));
        all.add(b -> b.rule(1, b.count(0), 1));
        all.add(b -> bit(b.lend(2, 1)));
        all.add(b -> bit(b.lend(3, 1)));
        all.add(b -> bit(b.lend(2400, 2)));
        all.add(b -> b.issue(0, b.count(0) / 30));
        all.add(b -> b.issue(2, b.count(0) / 30 + 1));
        all.add(b -> b.note(0, 4, 3));
        all.add(b -> bit(b.undo(0)));
        all.add(b -> b.handIn(0));
        all.add(b -> b.poured(3, 5));
        all.add(b -> b.pour(0, 0, 4));
        all.add(b -> b.handIn(1));
        all.add(b -> b.count(8));
        all.add(b -> b.found(1));
        all.add(b -> b.deliver(0, 5));
        all.add(b -> b.dip(0, 95));
        all.add(b -> b.in(0, 2));
        all.add(b -> bit(b.want(1, 1)));
        all.add(b -> b.flow(-1, 1));
        all.add(b -> b.appeal(0, 1));
        all.add(b -> b.ask(0, 9, 1, 1, 719, 12));
        all.add(b -> b.holder(9, 0, 1, 7, 7));
        all.add(b -> b.port(3));
        all.add(PetrolBoard::station);
        all.add(b -> b.feed(0x646f7562, 0x7420393b, 0x20202020, 0x20202020, 0x20202020));
        all.add(b -> b.orders(b.count(12), 2));
        all.add(PetrolBoard::fault);
        all.add(b -> b.rule(2, b.count(0), 4));
        all.add(b -> bit(b.day(b.count(0) + 1)));
        all.add(b -> b.judged(0, 0, 1));
        for (int k = 0; k < 14; k++) {
            int what = k;
            all.add(b -> b.count(what));
        }
        rounds.add(all);
    }
}
