/** Promises 7 to 11: the tape, ORDERS, their FAULTS, amounts and UNITS. */
public final class OrdersTest {
    private static final Check CHECK = new Check("OrdersTest");

    public static void main(String[] args) {
        tape();
        bytesOfAFeed();
        orders();
        twelveOrders();
        faultsOfWords();
        faultsOfNumbers();
        faultsOfOpenOnes();
        faultsOfStatements();
        soundTexts();
        latestFault();
        rules();
        rulesOfTwoTimes();
        units();
        unitsReckoned();
        unitsOfTwoTimes();
        conditions();
        CHECK.finish();
    }

    private static void tape() {
        CHECK.promise("promise 7");
        PetrolBoard b = new PetrolBoard();
        for (int k = 1; k <= 25; k++) {
            CHECK.due(b.feed(0, -1, Integer.MIN_VALUE, 538976288, 7), 20 * k);
        }
        CHECK.due(b.feed(0, 0, 0, 0, 0), -1);
        CHECK.due(b.count(12), 500);
        CHECK.due(b.orders(500, 0), -1);
        CHECK.due(b.count(12), 0);
        CHECK.due(b.feed(0, 0, 0, 0, 0), 20);
    }

    private static void bytesOfAFeed() {
        CHECK.promise("promise 7, the highest byte first");
        PetrolBoard b = new PetrolBoard();
        // "wort" "h 7;" "lend" " 3;\n" "    "
        b.feed(0x776f7274, 0x6820373b, 0x6c656e64, 0x20333b0a, 0x20202020);
        CHECK.due(b.orders(20, 0), 0);
        CHECK.due(b.rule(0, 0, 0), 7);
        CHECK.due(b.rule(0, 0, 2), 3);
        // A byte above 127 begins no token and is no blank.
        b.feed(0x776f7274, 0x6820373b, 0xa0202020, 0x20202020, 0x20202020);
        CHECK.due(b.orders(20, 0), -1);
        CHECK.due(b.fault(), 8);
        b.feed(0x776f7274, 0x68a0373b, 0x20202020, 0x20202020, 0x20202020);
        CHECK.due(b.orders(20, 0), -1);
        CHECK.due(b.fault(), 5);
    }

    private static void orders() {
        CHECK.promise("promise 8");
        PetrolBoard b = new PetrolBoard();
        Check.feed(b, "worth 5;worth 6;");
        CHECK.due(b.orders(-1, 0), -2);
        CHECK.due(b.orders(21, 0), -2);
        CHECK.due(b.orders(8, -1), -2);
        CHECK.due(b.orders(8, 24), -2);
        CHECK.due(b.orders(Integer.MIN_VALUE, 0), -2);
        CHECK.due(b.orders(Integer.MAX_VALUE, 0), -2);
        CHECK.due(b.count(12), 20);
        CHECK.due(b.orders(8, 0), 0);
        CHECK.due(b.count(12), 0);
        CHECK.due(b.rule(0, 0, 0), 5);
        // The tape was emptied, the bytes behind the first n with it.
        Check.feed(b, "lapse 3;");
        CHECK.due(b.orders(20, 3), 1);
        CHECK.due(b.rule(3, 0, 1), 3);
        CHECK.due(b.rule(2, 0, 1), 1);
        CHECK.due(b.rule(3, 0, 0), 10);
        // A FAULT empties the tape, too, and tells no ORDERS.
        Check.feed(b, "lapse 3 ");
        CHECK.due(b.orders(8, 0), -1);
        CHECK.due(b.count(12), 0);
        CHECK.due(b.count(3), 2);
        CHECK.due(b.orders(0, 0), 2);
        CHECK.due(b.rule(0, 0, 0), 10);
    }

    private static void twelveOrders() {
        CHECK.promise("promise 8, twelve ORDERS");
        longOrders();
        PetrolBoard b = new PetrolBoard();
        for (int k = 0; k < 12; k++) {
            CHECK.due(Check.tell(b, "doubt " + k + ";", k), k);
        }
        CHECK.due(Check.tell(b, "doubt 77;", 0), -3);
        CHECK.due(b.count(12), 20);
        CHECK.due(b.count(3), 12);
        CHECK.due(b.orders(21, 0), -2);
        CHECK.due(b.orders(0, 24), -2);
        CHECK.due(b.orders(0, 23), -3);
        CHECK.due(b.rule(11, 0, 4), 11);
        CHECK.due(b.rule(0, 0, 4), 0);
        CHECK.due(b.fault(), -1);
    }

    /** Each text is read for itself: nothing of the ones before it is left, however long they were. */
    private static void longOrders() {
        PetrolBoard b = new PetrolBoard();
        b.holder(1, 0, 1, 0, 0);
        CHECK.due(Check.tell(b, "units 7;worth 8;lapse 3;", 0), 0);
        CHECK.due(Check.tell(b, "", 0), 1);
        CHECK.due(b.rule(0, 0, 0), 10);
        CHECK.due(b.rule(0, 0, 1), 1);
        CHECK.due(b.units(0, 0, 0), 0);
        CHECK.due(Check.tell(b, "units 7;worth 8;lapse;", 0), -1);
        for (int k = 2; k < 12; k++) {
            CHECK.due(Check.tell(b, "units 1" + "+1".repeat(243) + "-" + (200 + k) + ";", 0), k);
            CHECK.due(b.units(0, 0, 0), 44 - k);
            CHECK.due(b.rule(0, 0, 0), 10);
            CHECK.due(Check.tell(b, "stop 1=1;units 8", 0), k < 11 ? -1 : -3);
            CHECK.due(b.units(0, 0, 0), 44 - k);
        }
    }

    private static void fault(String text, int place) {
        PetrolBoard b = new PetrolBoard();
        CHECK.due(Check.tell(b, text, 0), place == PetrolBoard.NONE ? 0 : -1);
        CHECK.due(b.fault(), place);
        CHECK.due(b.count(3), place == PetrolBoard.NONE ? 1 : 0);
    }

    private static void faultsOfWords() {
        CHECK.promise("promise 9, words and signs");
        fault("unit 3;", 0);
        fault("unitss 3;", 0);
        fault("Units 3;", 0);
        fault("units3;", -1);
        fault("units days;", 6);
        fault("units 3if 1<2;", -1);
        fault("units 3 if1<2;", -1);
        fault("units 3 iff 1<2;", 8);
        fault("units 3 units 4;", 8);
        fault("units 3;;", 8);
        fault(";", 0);
        fault("units 3 4;", 8);
        fault("units -3;", 6);
        fault("units 3+;", 8);
        fault("units 3+*4;", 8);
        fault("units 3<4;", 7);
        fault("units if 1<2;", 6);
        fault("stop 3;", 6);
        fault("stop (1<2);", 7);
        fault("stop {1<2)", 9);
        fault("stop {1};", 7);
        fault("stop 1<2<3;", 8);
        fault("stop 1<2 or;", 11);
        fault("stop 1<2 and and", 13);
        fault("stop not;", 8);
        fault("stop if 1<2;", 5);
        fault("stop 1==2;", 7);
        fault("stop 1<=2;", 7);
        fault("trip least(1);", 12);
        fault("trip least(1,2,3);", 14);
        fault("trip least 1;", 11);
        fault("trip most{1,2};", 9);
        fault("trip (1,2);", 7);
        fault("trip ();", 6);
        fault("lend size;", 5);
        fault("lend 1+1;", 6);
        fault("lend 1 if 1<2;", 7);
        fault("lend -1;", 5);
        fault("units 3@;", 7);
        fault("units 3.5;", 7);
        fault("units_3;", 5);
        fault("units\t3;", 5);
        fault("\u00e9", 0);
        fault("units 3\u0000;", 7);
    }

    private static void faultsOfNumbers() {
        CHECK.promise("promise 9, numbers");
        fault("worth 0;", 6);
        fault("worth 000000;", 6);
        fault("worth 000001;", -1);
        fault("worth 999999;", -1);
        fault("worth 1000000;", 6);
        fault("worth 0000001;", 6);
        fault("lapse 0;", -1);
        fault("lapse 0000000;", 6);
        fault("units 1234567;", 6);
        fault("units 123456;", -1);
        fault("units 1+1234567890123;", 8);
        fault("stop 1<1234567;", 7);
        fault("units 12 34;", 9);
    }

    private static void faultsOfOpenOnes() {
        CHECK.promise("promise 9, open ones");
        fault("trip (((((((((1)))))))));", -1);
        fault("trip ((((((((((1))))))))));", 14);
        fault("stop {{{{{{{{{1<2}}}}}}}}};", -1);
        fault("stop {{{{{{{{{{1<2", 14);
        fault("stop not not not not not not not not not 1<2;", -1);
        fault("stop not not not not not not not not not not 1<2;", 41);
        fault("stop {not{not{not{not{1<(2)}}}}};", 24);
        fault("stop {not{not{not{not(2)<3}}}};", -1);
        fault("stop not not not not not not not not not {1<2};", 41);
        fault("stop not not not not not not not not not (1)<2;", 41);
        fault("trip least(1,least(1,least(1,least(1,least(1,least(1,least(1,least(1,least(1,2)))))))));", -1);
        fault("trip most(1,most(1,most(1,most(1,most(1,most(1,most(1,most(1,most(1,least(1,", 68);
        fault("trip most((((((((((1", 17 + 1);
        // Closed ones are open no more.
        fault("trip (1)+(1)+(1)+(1)+(1)+(1)+(1)+(1)+(1)+(1)+(1);", -1);
        fault("stop not 1<2 and not 1<2 and not 1<2 and not 1<2 and not 1<2 and not 1<2 and not 1<2 and not 1<2 "
                + "and not 1<2 and not (((((((1)))))))<2;", -1);
        fault("units ((((1)))) if {{{{{{{{(1)<2}}}}}}}};", -1);
        fault("trip most(" + "(".repeat(8) + "1" + ")".repeat(8) + "," + "(".repeat(8) + "2" + ")".repeat(8) + ");", -1);
        fault("trip most(1," + "(".repeat(9) + "2", 20);
    }

    private static void faultsOfStatements() {
        CHECK.promise("promise 9, ends and 25 statements");
        fault("", -1);
        fault("  \n ", -1);
        fault("units", 5);
        fault("units ", 6);
        fault("units 3", 7);
        fault("units 3  \n ", 11);
        fault("stop 1<2", 8);
        fault("stop {1<2", 9);
        fault("worth", 5);
        fault("trip least(1,", 13);
        fault("\n units\n3 ;\n", -1);
        String many = "lend 1;lend 1;lend 1;lend 1;lend 1;lend 1;lend 1;lend 1;".repeat(3);
        fault(many, -1);
        fault(many + " \n", -1);
        fault(many + " lend 1;", 169);
        fault(many + "units", 168);
        fault(many + ";", 168);
        fault(many + "@", 168);
    }

    private static void soundTexts() {
        CHECK.promise("promise 8, sound texts");
        fault("units 2*(size+1)/3-town+month*miles-people/reason-class;", -1);
        fault("trip 1 if not{1<2 or 2>1 and 3=3}and not not 1=1;", -1);
        fault("stop least(1,2)+most(size,(3))*2 > 5;", -1);
        fault("units 1;units 2 if 1<2;trip 3;stop 1<2;worth 1;lapse 2;lend 3;waste 4;doubt 5;", -1);
    }

    private static void latestFault() {
        CHECK.promise("promise 9, the latest orders()");
        PetrolBoard b = new PetrolBoard();
        CHECK.due(b.fault(), -1);
        CHECK.due(Check.tell(b, "lend", 0), -1);
        CHECK.due(b.fault(), 4);
        CHECK.due(b.orders(-1, 0), -2);
        CHECK.due(b.fault(), 4);
        CHECK.due(Check.tell(b, "worth 0;", 0), -1);
        CHECK.due(b.fault(), 6);
        for (int k = 0; k < 12; k++) {
            CHECK.due(b.orders(0, 0), k);
            CHECK.due(b.fault(), -1);
            if (k < 11) {
                CHECK.due(Check.tell(b, "?", 0), -1);
                CHECK.due(b.fault(), 0);
            }
        }
        CHECK.due(Check.tell(b, "?", 0), -3);
        CHECK.due(b.fault(), -1);
    }

    private static void rules() {
        CHECK.promise("promise 10");
        PetrolBoard b = new PetrolBoard();
        int[] usual = {10, 1, 5, 0, 20, -1};
        for (int what = 0; what < 6; what++) {
            CHECK.due(b.rule(23, 719, what), usual[what]);
        }
        CHECK.due(Check.tell(b, "doubt 1;worth 11;lapse 12;lend 13;waste 14;worth 9;doubt 0;", 0), 0);
        int[] told = {9, 12, 13, 14, 0, 0};
        for (int what = 0; what < 6; what++) {
            CHECK.due(b.rule(0, 0, what), told[what]);
        }
        CHECK.due(b.rule(0, 0, 6), -1);
        CHECK.due(b.rule(0, 0, -1), -1);
        CHECK.due(b.rule(-1, 0, 0), -1);
        CHECK.due(b.rule(24, 0, 0), -1);
        CHECK.due(b.rule(0, -1, 0), -1);
        CHECK.due(b.rule(0, 720, 0), -1);
        CHECK.due(b.rule(24, 0, 5), -1);
        CHECK.due(b.rule(Integer.MIN_VALUE, Integer.MAX_VALUE, 5), -1);
    }

    private static void rulesOfTwoTimes() {
        CHECK.promise("promise 10, two times");
        PetrolBoard b = new PetrolBoard();
        b.day(10);
        Check.tell(b, "worth 1;lapse 7;", 5);
        b.day(20);
        Check.tell(b, "worth 2;", 3);
        b.day(30);
        Check.tell(b, "worth 3;", 5);
        Check.tell(b, "worth 4;", 8);
        CHECK.due(b.rule(5, 9, 5), -1);
        CHECK.due(b.rule(5, 9, 0), 10);
        CHECK.due(b.rule(5, 10, 5), 0);
        CHECK.due(b.rule(4, 10, 5), -1);
        CHECK.due(b.rule(4, 20, 5), 1);
        CHECK.due(b.rule(4, 19, 5), -1);
        // Those for the latest MONTH, though others were told later.
        CHECK.due(b.rule(5, 20, 5), 0);
        CHECK.due(b.rule(5, 20, 1), 7);
        CHECK.due(b.rule(5, 29, 5), 0);
        // Of one MONTH those told last; what they don't tell is usual.
        CHECK.due(b.rule(5, 30, 5), 2);
        CHECK.due(b.rule(5, 30, 1), 1);
        CHECK.due(b.rule(7, 719, 0), 3);
        CHECK.due(b.rule(8, 719, 0), 4);
        CHECK.due(b.rule(23, 30, 5), 3);
        CHECK.due(b.rule(23, 29, 5), 0);
        CHECK.due(b.rule(2, 719, 5), -1);
    }

    private static void units() {
        CHECK.promise("promise 11");
        PetrolBoard b = new PetrolBoard();
        b.holder(3, 7, 1, 0, 0);
        CHECK.due(b.units(0, 0, 0), 0);
        CHECK.due(b.units(1, 0, 0), -1);
        CHECK.due(b.units(-1, 0, 0), -1);
        CHECK.due(b.units(0, -1, 0), -1);
        CHECK.due(b.units(0, 24, 0), -1);
        CHECK.due(b.units(0, 0, -1), -1);
        CHECK.due(b.units(0, 0, 720), -1);
        Check.tell(b, "trip 9;units 4 if size<3;units 5 if size=3;units 6;stop month=4 or town<7;", 1);
        CHECK.due(b.units(0, 0, 0), 0);
        CHECK.due(b.units(0, 1, 0), 5);
        CHECK.due(b.units(0, 3, 719), 5);
        CHECK.due(b.units(0, 4, 0), 0);
        CHECK.due(b.units(0, 5, 0), 5);
        b.holder(4, 6, 1, 0, 0);
        CHECK.due(b.units(1, 1, 0), 0);
        b.holder(2, 8, 1, 0, 0);
        CHECK.due(b.units(2, 1, 0), 4);
        b.holder(9, 8, 1, 0, 0);
        CHECK.due(b.units(3, 1, 0), 6);
        // A "stop" counts wherever it stands; some one of them is enough.
        Check.tell(b, "units 7;stop 1<1;stop 2<1;", 1);
        CHECK.due(b.units(3, 1, 0), 7);
        Check.tell(b, "stop 1<1;stop 1<2;units 7;", 1);
        CHECK.due(b.units(3, 1, 0), 0);
        Check.tell(b, "units 7 if 2<1;trip 7;", 1);
        CHECK.due(b.units(3, 1, 0), 0);
    }

    private static int reckoned(String ex) {
        PetrolBoard b = new PetrolBoard();
        b.holder(3, 7, 2, 500, 50);
        Check.tell(b, "units " + ex + ";", 0);
        b.note(0, 4, 60);
        return b.units(0, 2, 0);
    }

    private static void unitsReckoned() {
        CHECK.promise("promise 11, an EX");
        CHECK.due(reckoned("1+2*3"), 7);
        CHECK.due(reckoned("(1+2)*3"), 9);
        CHECK.due(reckoned("20-3-4"), 13);
        CHECK.due(reckoned("20-(3-4)"), 21);
        CHECK.due(reckoned("100/7/2"), 7);
        CHECK.due(reckoned("100/(7/2)"), 33);
        CHECK.due(reckoned("7*10/4"), 17);
        CHECK.due(reckoned("7/10*40"), 0);
        CHECK.due(reckoned("50+(0-7)/2"), 47);
        CHECK.due(reckoned("50+7/(0-2)"), 47);
        CHECK.due(reckoned("5+7/0"), 5);
        CHECK.due(reckoned("5+(0-7)/0"), 5);
        CHECK.due(reckoned("5+0/0"), 5);
        CHECK.due(reckoned("least(9,4)+most(9,4)*2"), 22);
        CHECK.due(reckoned("least(0-9,4)+30"), 21);
        CHECK.due(reckoned("class*10+size"), 43);
        CHECK.due(reckoned("town*10+month"), 72);
        CHECK.due(reckoned("1+miles+people+reason"), 1);
        CHECK.due(reckoned("99"), 99);
        CHECK.due(reckoned("100"), 99);
        CHECK.due(reckoned("0-1"), 0);
        CHECK.due(reckoned("999999"), 99);
        CHECK.due(reckoned("000007"), 7);
        // As many operands waiting as nine open ones allow.
        CHECK.due(reckoned("1+1*most(1,".repeat(9) + "1+1*2" + ")".repeat(9)), 12);
        CHECK.due(reckoned("3 if 1=2 or 1=1 and 12=" + "1+1*most(1,".repeat(9) + "1+1*2" + ")".repeat(9)), 3);
        CHECK.due(reckoned("3 if " + "1=2 or 1=1 and {".repeat(9) + "1=2 or 1=1 and 3=1+1*2" + "}".repeat(9)), 3);
        // Held to 10^9 on both sides at each result.
        CHECK.due(reckoned("999999*999999/1000/10000"), 99);
        CHECK.due(reckoned("999999*999999/20000/1000"), 50);
        CHECK.due(reckoned("0-(0-999999*999999)/20000/1000"), 50);
        CHECK.due(reckoned("(0-999999)*999999/20000/1000+60"), 10);
        CHECK.due(reckoned("(999999*999999+999999-999999)/20000/1000"), 49);
        CHECK.due(reckoned("(1000*1000*1000+1-1000*1000*1000)+3"), 3);
        CHECK.due(reckoned("(0-1000*1000*1000-1+1000*1000*1000)+3"), 3);
        CHECK.due(reckoned("1000*1000*1000/(1000*1000*100)"), 10);
    }

    private static void unitsOfTwoTimes() {
        CHECK.promise("promise 11, two times");
        PetrolBoard b = new PetrolBoard();
        b.holder(1, 0, 1, 0, 0);
        b.day(10);
        Check.tell(b, "units 10+class;", 0);
        b.note(0, 1, 61);
        b.day(20);
        Check.tell(b, "units 20+class;", 0);
        b.note(0, 2, 60);
        CHECK.due(b.units(0, 2, 9), 0);
        // CLASS on the MONTH's first DAY: the NOTE from DAY 61 on isn't in it yet.
        CHECK.due(b.units(0, 2, 10), 10);
        CHECK.due(b.units(0, 3, 10), 11);
        CHECK.due(b.units(0, 2, 19), 10);
        CHECK.due(b.units(0, 2, 20), 22);
        CHECK.due(b.units(0, 3, 20), 21);
        CHECK.due(b.units(0, 1, 20), 20);
        b.day(25);
        b.undo(1);
        CHECK.due(b.units(0, 2, 25), 20);
        CHECK.due(b.units(0, 2, 24), 22);
    }

    private static boolean stopped(String cond) {
        PetrolBoard b = new PetrolBoard();
        b.holder(3, 7, 2, 500, 50);
        CHECK.due(Check.tell(b, "units 1;stop " + cond + ";", 0), 0);
        return b.units(0, 2, 0) == 0;
    }

    private static void conditions() {
        CHECK.promise("promise 11, a COND");
        CHECK.due(stopped("1<2"), true);
        CHECK.due(stopped("2<2"), false);
        CHECK.due(stopped("2>2"), false);
        CHECK.due(stopped("3>2"), true);
        CHECK.due(stopped("2=2"), true);
        CHECK.due(stopped("2=3"), false);
        CHECK.due(stopped("not 2=3"), true);
        CHECK.due(stopped("not not 2=3"), false);
        CHECK.due(stopped("1=1 or 1=1 and 1=2"), true);
        CHECK.due(stopped("{1=1 or 1=1} and 1=2"), false);
        CHECK.due(stopped("1=2 and 1=1 or 1=1"), true);
        CHECK.due(stopped("1=2 and {1=1 or 1=1}"), false);
        // "not" takes one, not all that is joined by "and".
        CHECK.due(stopped("not 1=1 or 1=1"), true);
        CHECK.due(stopped("not {1=1 or 1=1}"), false);
        CHECK.due(stopped("not 1=2 and 1=2"), false);
        CHECK.due(stopped("not {1=2 and 1=2}"), true);
        CHECK.due(stopped("1=1 and 1=1 and 1=2"), false);
        CHECK.due(stopped("1=2 or 1=2 or 1=1"), true);
        CHECK.due(stopped("1+2*3=7"), true);
        CHECK.due(stopped("0-1<0"), true);
        CHECK.due(stopped("month=2 and town=7 and size=3 and class=0 and miles+people+reason=0"), true);
    }
}
