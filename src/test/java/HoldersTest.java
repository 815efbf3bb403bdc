/** Promises 1 to 6: a new object, days, HOLDERS and the NOTES of two times. */
public final class HoldersTest {
    private static final Check CHECK = new Check("HoldersTest");

    public static void main(String[] args) {
        newObject();
        days();
        holders();
        notes();
        undone();
        classes();
        CHECK.finish();
    }

    private static void newObject() {
        CHECK.promise("promise 1");
        PetrolBoard b = new PetrolBoard();
        for (int what = 0; what <= 12; what++) {
            CHECK.due(b.count(what), 0);
        }
        CHECK.due(b.fault(), PetrolBoard.NONE);
        CHECK.due(b.rule(0, 0, 5), -1);
        CHECK.due(b.classOf(0, 0, 0), -1);
        CHECK.due(b.units(0, 0, 0), -1);
        CHECK.due(b.owner(0), -1);
        CHECK.due(b.handIn(0), -1);
        CHECK.due(b.poured(0, 0), -1);
        CHECK.due(b.found(0), -1);
        CHECK.due(b.journey(0, 0), -1);
        CHECK.due(b.flow(0, 0), -1);
        CHECK.due(b.flow(-1, 0), 0);
        CHECK.due(b.flow(-1, 1), 0);
        CHECK.due(b.want(0, 1), false);
        CHECK.due(b.in(0, 0), -2_000_000_000);
    }

    private static void days() {
        CHECK.promise("promise 2");
        PetrolBoard b = new PetrolBoard();
        CHECK.due(b.day(0), false);
        CHECK.due(b.day(-1), false);
        CHECK.due(b.day(5), true);
        CHECK.due(b.count(0), 5);
        CHECK.due(b.day(5), false);
        CHECK.due(b.day(4), false);
        CHECK.due(b.count(0), 5);
        CHECK.due(b.day(720), false);
        CHECK.due(b.day(Integer.MAX_VALUE), false);
        CHECK.due(b.day(Integer.MIN_VALUE), false);
        CHECK.due(b.count(0), 5);
        CHECK.due(b.day(719), true);
        CHECK.due(b.count(0), 719);
        CHECK.due(b.day(720), false);
    }

    private static void holders() {
        CHECK.promise("promise 3");
        PetrolBoard b = new PetrolBoard();
        int[][] wrong = {
            {0, 0, 1, 0, 0}, {10, 0, 1, 0, 0}, {1, -1, 1, 0, 0}, {1, 10, 1, 0, 0}, {1, 0, 0, 0, 0}, {1, 0, 9, 0, 0},
            {1, 0, 1, -1, 0}, {1, 0, 1, 1000, 0}, {1, 0, 1, 0, -1}, {1, 0, 1, 0, 100},
            {Integer.MIN_VALUE, 0, 1, 0, 0}, {1, Integer.MAX_VALUE, 1, 0, 0},
        };
        for (int[] w : wrong) {
            CHECK.due(b.holder(w[0], w[1], w[2], w[3], w[4]), -1);
        }
        CHECK.due(b.count(1), 0);
        CHECK.due(b.holder(1, 0, 1, 0, 0), 0);
        CHECK.due(b.holder(9, 9, 8, 999, 99), 1);
        for (int k = 2; k < 30; k++) {
            CHECK.due(b.holder(5, 5, 4, 500, 50), k);
        }
        CHECK.due(b.holder(5, 5, 4, 500, 50), -1);
        CHECK.due(b.count(1), 30);
    }

    private static void notes() {
        CHECK.promise("promise 4");
        PetrolBoard b = new PetrolBoard();
        CHECK.due(b.note(0, 1, 0), -1);
        b.holder(1, 0, 1, 0, 0);
        CHECK.due(b.note(-1, 1, 0), -1);
        CHECK.due(b.note(1, 1, 0), -1);
        CHECK.due(b.note(0, -1, 0), -1);
        CHECK.due(b.note(0, 5, 0), -1);
        CHECK.due(b.note(0, 1, -1), -1);
        CHECK.due(b.note(0, 1, 720), -1);
        CHECK.due(b.count(2), 0);
        CHECK.due(b.note(0, 4, 719), 0);
        CHECK.due(b.note(0, 0, 0), 1);
        for (int k = 2; k < 200; k++) {
            CHECK.due(b.note(0, 1, 0), k);
        }
        CHECK.due(b.note(0, 1, 0), -1);
        CHECK.due(b.count(2), 200);
    }

    private static void undone() {
        CHECK.promise("promise 5");
        PetrolBoard b = new PetrolBoard();
        b.holder(1, 0, 1, 0, 0);
        CHECK.due(b.undo(0), false);
        CHECK.due(b.undo(-1), false);
        b.note(0, 3, 0);
        b.note(0, 1, 0);
        CHECK.due(b.undo(2), false);
        CHECK.due(b.classOf(0, 0, 0), 1);
        b.day(10);
        CHECK.due(b.undo(1), true);
        CHECK.due(b.undo(1), false);
        b.day(11);
        CHECK.due(b.undo(1), false);
        CHECK.due(b.count(2), 2);
        // Till the DAY on which it was UNDONE, not on it.
        CHECK.due(b.classOf(0, 0, 9), 1);
        CHECK.due(b.classOf(0, 0, 10), 3);
        CHECK.due(b.classOf(0, 0, 719), 3);
        CHECK.due(b.undo(0), true);
        CHECK.due(b.classOf(0, 0, 11), 0);
        CHECK.due(b.classOf(0, 0, 10), 3);
        // Told and UNDONE on one DAY: never KNOWN.
        int n = b.note(0, 4, 0);
        CHECK.due(b.classOf(0, 5, 11), 4);
        CHECK.due(b.undo(n), true);
        CHECK.due(b.classOf(0, 5, 11), 0);
        CHECK.due(b.classOf(0, 5, 719), 0);
    }

    private static void classes() {
        CHECK.promise("promise 6");
        PetrolBoard b = new PetrolBoard();
        b.holder(1, 0, 1, 0, 0);
        b.holder(1, 0, 1, 0, 0);
        CHECK.due(b.classOf(0, 0, 0), 0);
        CHECK.due(b.classOf(2, 0, 0), -1);
        CHECK.due(b.classOf(-1, 0, 0), -1);
        CHECK.due(b.classOf(0, -1, 0), -1);
        CHECK.due(b.classOf(0, 720, 0), -1);
        CHECK.due(b.classOf(0, 0, -1), -1);
        CHECK.due(b.classOf(0, 0, 720), -1);
        b.day(100);
        b.note(0, 1, 50);
        b.note(0, 2, 200);
        b.day(110);
        b.note(0, 3, 50);
        b.note(0, 4, 40);
        CHECK.due(b.classOf(0, 49, 100), 0);
        CHECK.due(b.classOf(0, 50, 100), 1);
        CHECK.due(b.classOf(0, 50, 99), 0);
        CHECK.due(b.classOf(0, 50, 109), 1);
        // Of one DAY the one told last; an earlier DAY told later doesn't count.
        CHECK.due(b.classOf(0, 50, 110), 3);
        CHECK.due(b.classOf(0, 199, 110), 3);
        CHECK.due(b.classOf(0, 200, 110), 2);
        CHECK.due(b.classOf(0, 719, 719), 2);
        CHECK.due(b.classOf(0, 49, 110), 4);
        CHECK.due(b.classOf(0, 40, 110), 4);
        CHECK.due(b.classOf(0, 39, 110), 0);
        CHECK.due(b.classOf(1, 200, 110), 0);
    }
}
