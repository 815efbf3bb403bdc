/** The sentences of term 2 that tell what ORDERS reckon and which are in force, and promises 10 and 11. */
public final class ReckonedTest {
    private static final Check CHECK = new Check("ReckonedTest");
    private static final String GREATEST = "1000*1000*1000";

    public static void main(String[] args) {
        heldAbove();
        heldBelow();
        heldAtEachResult();
        towardsNought();
        noughtByNought();
        conditionsAtTheirEdge();
        inForceAsKnown();
        latestMonthUpToIt();
        ofOneMonthThoseToldLast();
        stopOfAnyPlace();
        firstUnits();
        unitsHeld();
        kindOnTheFirstDay();
        namesOfUnits();
        unitsAskedFor();
        CHECK.finish();
    }

    /** Whether the EX is as told; "units" may tell 0 to 99 alone. */
    private static boolean same(String ex, String told) {
        PetrolBoard b = new PetrolBoard();
        b.holder(3, 7, 2, 500, 50);
        CHECK.due(Check.tell(b, "units 1 if " + ex + "=" + told + ";units 2;", 0), 0);
        return b.units(0, 0, 0) == 1;
    }

    private static void due(String ex, String told) {
        CHECK.due(same(ex, told), true);
        CHECK.due(same(ex, told + "+1"), told.equals(GREATEST));
        CHECK.due(same(ex, told + "-1"), told.equals("0-" + GREATEST));
    }

    private static void heldAbove() {
        CHECK.saysOfTerm(2, "Each result is held to from -10^9 to 10^9");
        due(GREATEST, GREATEST);
        due(GREATEST + "-1", "999999*1000+999");
        CHECK.due(same("999999*1000+999", GREATEST), false);
        CHECK.due(same("999999*1000+1000", GREATEST), true);
        CHECK.due(same("999999*1000+1001", GREATEST), true);
        due("999999*999999", GREATEST);
        due("999999*999999*999999", GREATEST);
        due(GREATEST + "+" + GREATEST + "+" + GREATEST, GREATEST);
        due("1-(0-" + GREATEST + ")", GREATEST);
        due("(0-" + GREATEST + ")*(0-" + GREATEST + ")", GREATEST);
        due("(0-" + GREATEST + ")*(0-1)", GREATEST);
        due("(0-" + GREATEST + ")/(0-1)", GREATEST);
        due("most(" + GREATEST + "," + GREATEST + ")", GREATEST);
        // Below 2^31 and beyond it, and what is 0 in 32 bits.
        due("65536*65536", GREATEST);
        due("65536*32768", GREATEST);
        due("999999*2147", GREATEST);
        due("999999*2148", GREATEST);
        due("999999*4295", GREATEST);
    }

    private static void heldBelow() {
        CHECK.promise("term 2, held to -10^9");
        String least = "0-" + GREATEST;
        due(least, least);
        due("0-999999*1000-999", "0-999999*1000-999");
        CHECK.due(same("0-999999*1000-999", least), false);
        CHECK.due(same("0-999999*1000-1000", least), true);
        CHECK.due(same("0-999999*1000-1001", least), true);
        due(least + "-" + GREATEST, least);
        due("(0-999999)*999999", least);
        due("(" + least + ")*(" + GREATEST + ")", least);
        due("(" + least + ")/1", least);
        due("least(" + least + ",0)", least);
        due("(0-65536)*65536", least);
    }

    private static void heldAtEachResult() {
        CHECK.promise("term 2, each result, not the last alone");
        due("999999*999999-999999*999999", "0");
        due(GREATEST + "+1-1", "999999*1000+999");
        due(GREATEST + "+1-" + GREATEST, "0");
        due("0-" + GREATEST + "-1+1", "0-999999*1000-999");
        due("999999*999999/999999", "1000");
        due("999999*(999999/999999)", "999999");
        due("(999999*999999+999999*999999)/2", "1000*1000*500");
        due(GREATEST + "*1000/1000", "1000*1000");
    }

    private static void towardsNought() {
        CHECK.saysOfTerm(2, "/ towards 0");
        int[][] halves = {{7, 2, 3}, {6, 2, 3}, {1, 2, 0}, {0, 5, 0}, {999_999, 1_000, 999}, {999_999, 999_999, 1}};
        for (int[] h : halves) {
            String plus = "" + h[0];
            String by = "" + h[1];
            due(plus + "/" + by, "" + h[2]);
            due("(0-" + plus + ")/" + by, "0-" + h[2]);
            due(plus + "/(0-" + by + ")", "0-" + h[2]);
            due("(0-" + plus + ")/(0-" + by + ")", "" + h[2]);
        }
        due(GREATEST + "/999999", "1000");
        due("(0-" + GREATEST + ")/999999", "0-1000");
    }

    private static void noughtByNought() {
        CHECK.saysOfTerm(2, "0 by 0");
        due("7/0", "0");
        due("0/0", "0");
        due("(0-7)/0", "0");
        due(GREATEST + "/0", "0");
        due("7/(3-3)", "0");
        due("7/month", "0");
        due("7/0+5", "5");
        due("7/0*5", "0");
        due("5-7/0/0", "5");
        due("7/(1/2)", "0");
    }

    private static void conditionsAtTheirEdge() {
        CHECK.saysOfTerm(2, "EX (\"<\" | \">\" | \"=\") EX");
        String[] numbers = {"0-" + GREATEST, "0-1", "0", "1", "2", GREATEST};
        for (int a = 0; a < numbers.length; a++) {
            for (int c = 0; c < numbers.length; c++) {
                CHECK.due(holds(numbers[a] + "<" + numbers[c]), a < c);
                CHECK.due(holds(numbers[a] + ">" + numbers[c]), a > c);
                CHECK.due(holds(numbers[a] + "=" + numbers[c]), a == c);
                CHECK.due(holds("not " + numbers[a] + "<" + numbers[c]), a >= c);
            }
        }
    }

    private static boolean holds(String cond) {
        PetrolBoard b = new PetrolBoard();
        b.holder(3, 7, 2, 500, 50);
        CHECK.due(Check.tell(b, "stop " + cond + ";units 1;", 0), 0);
        return b.units(0, 0, 0) == 0;
    }

    private static void inForceAsKnown() {
        CHECK.saysOfTerm(2, "In force in a MONTH as KNOWN by a DAY: of those told by then");
        for (int told : new int[] {0, 1, 30, 719}) {
            PetrolBoard b = new PetrolBoard();
            b.holder(1, 0, 1, 0, 0);
            b.day(told);
            Check.tell(b, "units 9;lend 7;", 0);
            for (int known = Math.max(0, told - 2); known <= Math.min(719, told + 2); known++) {
                CHECK.due(b.rule(0, known, 5), known < told ? -1 : 0);
                CHECK.due(b.rule(23, known, 2), known < told ? 5 : 7);
                CHECK.due(b.units(0, 23, known), known < told ? 0 : 9);
            }
            CHECK.due(b.rule(0, 719, 5), 0);
        }
    }

    private static void latestMonthUpToIt() {
        CHECK.saysOfTerm(2, "for MONTHS up to it those from the latest MONTH");
        PetrolBoard b = new PetrolBoard();
        Check.tell(b, "lend 10;", 10);
        Check.tell(b, "lend 12;", 12);
        Check.tell(b, "lend 11;", 11);
        Check.tell(b, "lend 9;", 9);
        int[] due = {5, 9, 10, 11, 12, 12};
        int[] which = {-1, 3, 0, 2, 1, 1};
        for (int k = 0; k < due.length; k++) {
            CHECK.due(b.rule(8 + k, 0, 2), due[k]);
            CHECK.due(b.rule(8 + k, 0, 5), which[k]);
        }
        CHECK.due(b.rule(23, 0, 5), 1);
        CHECK.due(b.rule(0, 0, 5), -1);
        b.day(1);
        Check.tell(b, "", 11);
        CHECK.due(b.rule(11, 1, 5), 4);
        CHECK.due(b.rule(11, 0, 5), 2);
        CHECK.due(b.rule(12, 1, 5), 1);
        CHECK.due(b.rule(10, 1, 5), 0);
    }

    private static void ofOneMonthThoseToldLast() {
        CHECK.saysOfTerm(2, "of one MONTH those told last");
        PetrolBoard b = new PetrolBoard();
        Check.tell(b, "lend 1;worth 3;", 5);
        CHECK.due(b.rule(5, 0, 5), 0);
        Check.tell(b, "lend 2;", 5);
        // All of them: what those told last don't tell is as usual.
        CHECK.due(b.rule(5, 0, 5), 1);
        CHECK.due(b.rule(5, 0, 2), 2);
        CHECK.due(b.rule(5, 0, 0), 10);
        b.day(4);
        Check.tell(b, "lend 3;", 5);
        CHECK.due(b.rule(5, 3, 2), 2);
        CHECK.due(b.rule(5, 4, 2), 3);
        CHECK.due(b.rule(4, 4, 2), 5);
        CHECK.due(b.rule(23, 4, 2), 3);
    }

    private static int unitsBy(String text) {
        PetrolBoard b = Check.ordered(text);
        b.holder(3, 7, 2, 500, 50);
        return b.units(0, 0, 0);
    }

    private static void stopOfAnyPlace() {
        CHECK.saysOfTerm(2, "UNITS of a HOLDER for a MONTH as KNOWN by a DAY: 0, if some \"stop\" holds");
        CHECK.due(unitsBy("stop 1=1;units 7;"), 0);
        CHECK.due(unitsBy("units 7;stop 1=1;"), 0);
        CHECK.due(unitsBy("units 7;stop 1=2;"), 7);
        CHECK.due(unitsBy("stop 1=2;units 7;"), 7);
        CHECK.due(unitsBy("stop 1=2;stop 1=2;units 7;stop 1=1;"), 0);
        CHECK.due(unitsBy("stop 1=1;stop 1=2;units 7;stop 1=2;"), 0);
        CHECK.due(unitsBy("stop 1=2;stop 1=1;units 7;"), 0);
        CHECK.due(unitsBy("stop 1=1;"), 0);
        // Of ORDERS in force alone.
        PetrolBoard b = Check.ordered("stop 1=1;units 7;");
        b.holder(3, 7, 2, 500, 50);
        Check.tell(b, "units 8;", 1);
        CHECK.due(b.units(0, 0, 0), 0);
        CHECK.due(b.units(0, 1, 0), 8);
    }

    private static void firstUnits() {
        CHECK.saysOfTerm(2, "else what the first \"units\" tells whose COND holds (one without holds; none: 0)");
        CHECK.due(unitsBy(""), 0);
        CHECK.due(unitsBy("trip 9;lend 4;"), 0);
        CHECK.due(unitsBy("units 7;units 8;"), 7);
        CHECK.due(unitsBy("units 7 if 1=1;units 8;"), 7);
        CHECK.due(unitsBy("units 7 if 1=2;units 8;"), 8);
        CHECK.due(unitsBy("units 7 if 1=2;units 8 if 1=2;"), 0);
        CHECK.due(unitsBy("units 7 if 1=2;units 8 if 1=1;units 9;"), 8);
        CHECK.due(unitsBy("trip 6;units 7;"), 7);
        CHECK.due(unitsBy("units 0;units 7;"), 0);
        CHECK.due(unitsBy("units 0-5;units 7;"), 0);
        PetrolBoard none = new PetrolBoard();
        none.holder(3, 7, 2, 500, 50);
        CHECK.due(none.units(0, 0, 0), 0);
        CHECK.due(none.units(0, 23, 719), 0);
    }

    private static void unitsHeld() {
        CHECK.saysOfTerm(2, "held to 0 to 99. (CLASS on the MONTH's first DAY");
        for (int n : new int[] {0, 1, 98, 99, 100, 101, 255, 256, 999_999}) {
            CHECK.due(unitsBy("units " + n + ";"), Math.min(99, n));
            CHECK.due(unitsBy("units 0-" + n + ";"), 0);
        }
        CHECK.due(unitsBy("units " + GREATEST + ";"), 99);
        CHECK.due(unitsBy("units 0-" + GREATEST + ";"), 0);
        // What is issued is held, too.
        PetrolBoard b = Check.ordered("units 100;");
        b.holder(3, 7, 2, 500, 50);
        CHECK.due(b.issue(0, 0), 99);
        CHECK.due(b.owner(98), 0);
        CHECK.due(b.owner(99), -1);
        CHECK.due(b.owner(100), -1);
    }

    private static void kindOnTheFirstDay() {
        CHECK.saysOfTerm(2, "(CLASS on the MONTH's first DAY; size, town, month; miles, people, reason 0.)");
        for (int month : new int[] {0, 1, 22, 23}) {
            PetrolBoard b = Check.ordered("units 10*class;");
            b.holder(1, 0, 1, 0, 0);
            b.note(0, 4, 30 * month + 1);
            CHECK.due(b.units(0, month, 0), 0);
            CHECK.due(b.units(0, 23, 0), month < 23 ? 40 : 0);
            b.day(9);
            b.note(0, 3, 30 * month);
            CHECK.due(b.units(0, month, 8), 0);
            CHECK.due(b.units(0, month, 9), 30);
            CHECK.due(month == 0 ? 0 : b.units(0, month - 1, 9), 0);
            b.day(10);
            b.undo(1);
            CHECK.due(b.units(0, month, 10), 0);
            CHECK.due(b.units(0, month, 9), 30);
        }
    }

    private static void namesOfUnits() {
        CHECK.promise("term 2, each NAME at its bounds");
        for (int size : new int[] {1, 9}) {
            for (int town : new int[] {0, 9}) {
                PetrolBoard b = Check.ordered("units 10*size+town;");
                b.holder(size, town, 8, 999, 99);
                CHECK.due(b.units(0, 0, 0), 10 * size + town);
                Check.tell(b, "units month;", 0);
                CHECK.due(b.units(0, 0, 0), 0);
                CHECK.due(b.units(0, 23, 0), 23);
                b.ask(0, 500, 8, 4, 0, 12);
                Check.tell(b, "units 9+miles+people+reason;", 0);
                CHECK.due(b.units(0, 23, 0), 9);
            }
        }
        PetrolBoard each = Check.ordered("units class;");
        each.holder(1, 0, 1, 0, 0);
        for (int kind = 0; kind < 5; kind++) {
            each.note(0, kind, 0);
            CHECK.due(each.units(0, 0, 0), kind);
        }
    }

    private static void unitsAskedFor() {
        CHECK.says(11, "UNITS. NONE: none such.");
        PetrolBoard b = Check.ordered("units 3;");
        CHECK.due(b.units(0, 0, 0), -1);
        for (int h = 0; h < 30; h++) {
            b.holder(1, 0, 1, 0, 0);
            CHECK.due(b.units(h, 23, 719), 3);
            CHECK.due(b.units(h + 1, 0, 0), -1);
        }
        CHECK.due(b.units(29, -1, 0), -1);
        CHECK.due(b.units(29, 24, 0), -1);
        CHECK.due(b.units(29, 0, -1), -1);
        CHECK.due(b.units(29, 0, 720), -1);
    }
}
