/** The sentences of term 2 (ORDERS) and of promises 7 to 11 that name a bound, one test for each. */
public final class Term2Test {
    private static final Check CHECK = new Check("Term2Test");
    private static final int SOUND = PetrolBoard.NONE;
    private static final int LETTERS_FROM = 'a';
    private static final int LETTERS_TO = 'z';

    public static void main(String[] args) {
        noRuleAtAll();
        rule();
        exOfOneOrMore();
        atom();
        condOfOneOrMore();
        names();
        twentyBytes();
        upTo500();
        textOf500();
        firstBytesOfTheTape();
        oneToSixDigits();
        worthAtLeastOne();
        boundsOfEachNumber();
        asLongAsTheyGo();
        eachByteAlone();
        eachByteBehindANumber();
        eachByteBehindAWord();
        wordsLetterByLetter();
        nineOpen();
        tenthOpen();
        closedAgain();
        statementsUpTo24();
        statement25();
        moreMustCome();
        firstTokenAtFault();
        latestOrders();
        toldUpTo12();
        monthsFromOneOn();
        CHECK.finish();
    }

    private static void fault(String text, int place) {
        PetrolBoard b = new PetrolBoard();
        CHECK.due(Check.tell(b, text, 0), place == SOUND ? 0 : -1);
        CHECK.due(b.fault(), place);
        CHECK.due(b.count(3), place == SOUND ? 1 : 0);
        CHECK.due(b.count(12), 0);
    }

    private static void noRuleAtAll() {
        CHECK.saysOfTerm(2, "ORDERS are a text: {RULE \";\"}");
        fault("", SOUND);
        fault(" ", SOUND);
        fault("\n \n", SOUND);
        fault(" ".repeat(500), SOUND);
        fault(";", 0);
        fault(" ;", 1);
        fault("lend 1;;", 7);
        fault("lend 1; ;", 8);
        fault("lend 1", 6);
        fault("lend 1 lend 2;", 7);
        fault("lend 1;lend 2", 13);
        fault("lend 1;lend 2;", SOUND);
    }

    private static void rule() {
        CHECK.saysOfTerm(2, "RULE: (\"units\" | \"trip\") EX [\"if\" COND] | \"stop\" COND | (\"worth\" | \"lapse\" | \"lend\" | \"waste\" | \"doubt\") NUMBER.");
        for (String head : new String[] {"units", "trip"}) {
            int n = head.length();
            fault(head + " 1;", SOUND);
            fault(head + " 1 if 1<1;", SOUND);
            fault(head + ";", n);
            fault(head + " if 1<1;", n + 1);
            fault(head + " 1 if;", n + 5);
            fault(head + " 1 if 1;", n + 7);
            fault(head + " 1 if 1<1 if 1<1;", n + 10);
            fault(head + " 1 1<1;", n + 3);
        }
        fault("stop 1<1;", SOUND);
        fault("stop;", 4);
        fault("stop 1;", 6);
        fault("stop 1<1 if 1<1;", 9);
        for (String head : new String[] {"worth", "lapse", "waste", "doubt", "lend"}) {
            int n = head.length();
            fault(head + " 1;", SOUND);
            fault(head + ";", n);
            fault(head + " size;", n + 1);
            fault(head + " (1);", n + 1);
            fault(head + " 1+1;", n + 2);
            fault(head + " 1 if 1<1;", n + 3);
        }
    }

    private static void exOfOneOrMore() {
        CHECK.saysOfTerm(2, "EX: PROD {(\"+\" | \"-\") PROD}. PROD: ATOM {(\"*\" | \"/\") ATOM}.");
        for (String sign : new String[] {"+", "-", "*", "/"}) {
            fault("trip 1" + (sign + "1").repeat(240) + ";", SOUND);
            fault("trip 1" + (sign + "1").repeat(240) + sign + ";", 487);
            fault("trip 1" + sign + "1;", SOUND);
            fault("trip " + sign + "1;", 5);
            fault("trip 1" + sign + ";", 7);
            fault("trip 1" + sign + sign + "1;", 7);
            fault("trip (" + sign + "1);", 6);
            fault("trip (1" + sign + ");", 8);
        }
    }

    private static void atom() {
        CHECK.saysOfTerm(2, "ATOM: NUMBER | NAME | \"(\" EX \")\" | (\"least\" | \"most\") \"(\" EX \",\" EX \")\".");
        fault("trip 1;trip size;trip (1+size);trip least(1+1,size);trip most((1),least(2,3));", SOUND);
        fault("trip ();", 6);
        fault("trip (1;", 7);
        fault("trip 1);", 6);
        fault("trip (1,1);", 7);
        for (String word : new String[] {"least", "most"}) {
            int n = 5 + word.length();
            fault("trip " + word + " ( 1 , 1 ) ;", SOUND);
            fault("trip " + word + ";", n);
            fault("trip " + word + " 1,1;", n + 1);
            fault("trip " + word + "();", n + 1);
            fault("trip " + word + "(1);", n + 2);
            fault("trip " + word + "(,1);", n + 1);
            fault("trip " + word + "(1,);", n + 3);
            fault("trip " + word + "(1,1;", n + 4);
            fault("trip " + word + "(1,1,1);", n + 4);
            fault("trip " + word + "(1<1,1);", n + 2);
        }
    }

    private static void condOfOneOrMore() {
        CHECK.saysOfTerm(2, "COND: ALL {\"or\" ALL}. ALL: ONE {\"and\" ONE}. ONE: \"not\" ONE | \"{\" COND \"}\" | EX (\"<\" | \">\" | \"=\") EX.");
        for (String word : new String[] {"or", "and"}) {
            int n = 9 + word.length();
            fault("stop 1<1" + (" " + word + " 1=1").repeat(50) + ";", SOUND);
            fault("stop 1<1 " + word + ";", n);
            fault("stop " + word + " 1<1;", 5);
            fault("stop 1<1 " + word + " " + word + " 1<1;", n + 1);
            fault("stop 1 " + word + " 1<1;", 7);
            fault("stop {1<1 " + word + " 1<1};", SOUND);
            fault("stop {1<1 " + word + "};", n + 1);
            fault("stop 1<1 " + word + " not 1<1;", SOUND);
        }
        fault("stop not;", 8);
        fault("stop {};", 6);
        fault("stop {1<1;", 9);
        fault("stop 1<1};", 8);
        fault("stop {1<1)};", 9);
        fault("stop <1;", 5);
        fault("stop 1<;", 7);
        fault("stop 1<1<1;", 8);
        fault("stop 1<1=1;", 8);
        fault("stop (1<1);", 7);
        fault("stop {1}<1;", 7);
        fault("stop not not {not {1>1}};", SOUND);
    }

    private static void names() {
        CHECK.saysOfTerm(2, "NAME: class, size, town, month, miles, people, reason.");
        String[] all = {"class", "size", "town", "month", "miles", "people", "reason"};
        for (String name : all) {
            fault("trip " + name + ";", SOUND);
            fault("trip " + name + "+(" + name + ")*most(" + name + "," + name + ") if " + name + "<" + name + ";", SOUND);
            fault(name + ";", 0);
            fault("trip " + name + " " + name + ";", 6 + name.length());
            fault("lend " + name + ";", 5);
            fault("trip " + name + "(1);", 5 + name.length());
        }
        for (String other : new String[] {"seats", "bid", "need", "day", "holder", "units", "if", "not", "or", "known"}) {
            fault("trip " + other + ";", 5);
        }
    }

    private static void twentyBytes() {
        CHECK.says(7, "Twenty bytes come behind those on the tape, of each number the highest first: how many there are");
        PetrolBoard b = new PetrolBoard();
        // "wort" "h 25" "5;la" "pse " "3;  ", then behind it "lend" " 4;w" "aste" " 6;d" "oubt"
        CHECK.due(b.feed(0x776f7274, 0x68203235, 0x353b6c61, 0x70736520, 0x333b2020), 20);
        CHECK.due(b.feed(0x6c656e64, 0x20343b77, 0x61737465, 0x20363b64, 0x6f756274), 40);
        CHECK.due(b.feed(0x2020380a, 0x3b0a0a0a, 0x20202020, 0x20202020, 0x20202020), 60);
        CHECK.due(b.orders(60, 0), 0);
        int[] due = {255, 3, 4, 6, 8};
        for (int what = 0; what < due.length; what++) {
            CHECK.due(b.rule(0, 0, what), due[what]);
        }
        // Each of the twenty bytes comes to its own place.
        for (int place = 0; place < 20; place++) {
            for (int value : new int[] {0, 1, 127, 128, 255}) {
                int[] n = {0x20202020, 0x20202020, 0x20202020, 0x20202020, 0x20202020};
                int shift = 24 - place % 4 * 8;
                n[place / 4] = n[place / 4] & ~(255 << shift) | value << shift;
                PetrolBoard one = new PetrolBoard();
                one.feed(n[0], n[1], n[2], n[3], n[4]);
                CHECK.due(one.orders(20, 0), -1);
                CHECK.due(one.fault(), place);
            }
        }
    }

    private static void upTo500() {
        CHECK.says(7, "NONE, doing nothing: there would be more than 500");
        PetrolBoard b = new PetrolBoard();
        for (int k = 1; k <= 25; k++) {
            CHECK.due(b.feed(0x20202020, 0x20202020, 0x20202020, 0x20202020, 0x20202020), 20 * k);
        }
        CHECK.due(b.feed(-1, -1, -1, -1, -1), -1);
        CHECK.due(b.count(12), 500);
        CHECK.due(b.orders(501, 0), -2);
        CHECK.due(b.orders(500, 0), 0);
        CHECK.due(b.count(12), 0);
        for (int k = 1; k <= 25; k++) {
            CHECK.due(b.feed(-1, -1, -1, -1, -1), 20 * k);
        }
        CHECK.due(b.orders(0, 0), 1);
        CHECK.due(b.feed(-1, -1, -1, -1, -1), 20);
    }

    private static void textOf500() {
        CHECK.promise("promise 8, a text that fills the tape");
        String sum = "units 1" + "+1".repeat(246);
        fault(sum + ";", SOUND);
        fault(sum + " ", 500);
        fault(sum + "+", 500);
        fault(sum + "?", 499);
        fault(" ".repeat(499) + "?", 499);
        fault(" ".repeat(493) + "lend 1;", SOUND);
        fault(" ".repeat(494) + "lend 1", 500);
        fault(" ".repeat(496) + "lend", 500);
        fault(" ".repeat(496) + "lenz", 496);
        fault(";".repeat(500), 0);
        fault("(".repeat(500), 0);
        fault("a".repeat(500), 0);
        fault("7".repeat(500), 0);
        fault("units " + "7".repeat(494), 6);
        PetrolBoard b = new PetrolBoard();
        b.holder(1, 0, 1, 0, 0);
        CHECK.due(Check.tell(b, "units 0-163" + "+1".repeat(244) + ";", 0), 0);
        CHECK.due(b.units(0, 0, 0), 81);
    }

    private static void firstBytesOfTheTape() {
        CHECK.says(8, "The first n bytes of the tape (which is empty then) are ORDERS");
        String text = "worth 12;lapse 34;lend 5;";
        int[] due = {SOUND, 1, 2, 3, 4, 5, 6, 7, 8, SOUND, 10, 11, 12, 13, 14, 15, 16, 17, SOUND};
        for (int n = 0; n < due.length; n++) {
            PetrolBoard b = new PetrolBoard();
            Check.feed(b, text);
            CHECK.due(b.orders(n, 0), due[n] == SOUND ? 0 : -1);
            // A word that is cut off is none: its first byte is the FAULT.
            boolean cut = n > 0 && n < 5 || n > 9 && n < 14;
            CHECK.due(b.fault(), cut ? n < 5 ? 0 : 9 : due[n]);
            CHECK.due(b.count(12), 0);
            CHECK.due(b.rule(0, 0, 0), n >= 9 && due[n] == SOUND ? 12 : 10);
            CHECK.due(b.rule(0, 0, 1), n == 18 ? 34 : 1);
            CHECK.due(b.rule(0, 0, 2), 5);
            CHECK.due(b.orders(1, 0), -2);
        }
    }

    private static void oneToSixDigits() {
        CHECK.saysOfTerm(2, "NUMBER: one to six digits");
        String[] ahead = {"units ", "trip 1+", "trip most(1,", "stop 1<", "lapse ", "lend ", "waste ", "doubt ", "worth "};
        String[] behind = {";", ";", ");", ";", ";", ";", ";", ";", ";"};
        for (int k = 0; k < ahead.length; k++) {
            fault(ahead[k] + behind[k], ahead[k].length());
            for (int digits = 1; digits < 9; digits++) {
                int place = digits <= 6 ? SOUND : ahead[k].length();
                fault(ahead[k] + "987654321".substring(0, digits) + behind[k], place);
                fault(ahead[k] + "0000000000".substring(0, digits - 1) + "1" + behind[k], place);
            }
        }
        // What wants none has its FAULT there, too, however many digits.
        fault("units 1 2;", 8);
        fault("units 1 2222222;", 8);
        fault("1;", 0);
        fault("1234567;", 0);
        fault("lend 1 1;", 7);
    }

    private static void worthAtLeastOne() {
        CHECK.saysOfTerm(2, "of \"worth\" 1 at least");
        for (int digits = 1; digits <= 6; digits++) {
            String noughts = "000000".substring(0, digits);
            fault("worth " + noughts + ";", 6);
            fault("worth " + noughts.substring(1) + "1;", SOUND);
            for (String head : new String[] {"lapse ", "lend ", "waste ", "doubt ", "units "}) {
                fault(head + noughts + ";", SOUND);
            }
        }
        fault("worth 1;worth 0;", 14);
        fault("worth 0", 6);
    }

    private static void boundsOfEachNumber() {
        CHECK.saysOfTerm(2, "Of \"worth\" .. \"doubt\" the last; else: WORTH 10 (tenths of a gallon), LAPSE 1, LEND 5, WASTE 0, DOUBT 20.");
        String[] heads = {"worth ", "lapse ", "lend ", "waste ", "doubt "};
        int[] usual = {10, 1, 5, 0, 20};
        for (int k = 0; k < heads.length; k++) {
            PetrolBoard none = new PetrolBoard();
            CHECK.due(none.rule(0, 0, k), usual[k]);
            CHECK.due(none.rule(23, 719, k), usual[k]);
            int least = k == 0 ? 1 : 0;
            CHECK.due(Check.ordered(heads[k] + least + ";").rule(0, 0, k), least);
            CHECK.due(Check.ordered(heads[k] + "999999;").rule(23, 719, k), 999_999);
            PetrolBoard last = Check.ordered(heads[k] + "7;" + heads[k] + "8;" + heads[k] + "3;units 9;");
            PetrolBoard many = Check.ordered((heads[k] + "7;").repeat(23) + heads[k] + "8;");
            CHECK.due(many.rule(0, 0, k), 8);
            for (int what = 0; what < heads.length; what++) {
                CHECK.due(last.rule(0, 0, what), what == k ? 3 : usual[what]);
            }
        }
        // ORDERS in force that tell nothing: as without.
        PetrolBoard empty = Check.ordered("worth 2;lapse 2;lend 2;waste 2;doubt 2;");
        empty.orders(0, 0);
        for (int what = 0; what < usual.length; what++) {
            CHECK.due(empty.rule(0, 0, what), usual[what]);
        }
    }

    private static void asLongAsTheyGo() {
        CHECK.saysOfTerm(2, "Tokens as long as they go: words of letters a to z, digits, signs");
        fault("units1;", SOUND);
        fault("units 1if 1<1;", SOUND);
        fault("units 1if1<1;", SOUND);
        fault("unitsize;", 0);
        fault("units size1;", 10);
        fault("units 1size;", 7);
        fault("units sizeif 1<1;", 6);
        fault("units size if 1<1;", SOUND);
        fault("stop 1<1or 1<1;", SOUND);
        fault("stop 1<1or1<1and1<1;", SOUND);
        fault("stop size<sizeor 1<1;", 10);
        fault("stop notsize<1;", 5);
        fault("stop not size<1;", SOUND);
        fault("stop notnot 1<1;", 5);
        fault("stop not{1<1};", SOUND);
        fault("trip least(1,1);", SOUND);
        fault("trip leastmost(1,1);", 5);
        // A blank ends a token; signs go one by one.
        fault("un its 1;", 0);
        fault("lend 1 2;", 7);
        fault("lend 1\n2;", 7);
        fault("worth 1 0;", 8);
        fault("trip((1));", SOUND);
        fault("trip(((1)));stop{{1<1}};", SOUND);
        fault("stop 1<=1;", 7);
        fault("stop 1<>1;", 7);
        fault("trip 1--1;", 7);
    }

    private static boolean letter(int c) {
        return c >= LETTERS_FROM && c <= LETTERS_TO;
    }

    private static void eachByteAlone() {
        CHECK.saysOfTerm(2, "between them blanks (bytes 32 and 10)");
        for (int c = 0; c < 256; c++) {
            boolean blank = c == 32 || c == 10;
            fault("" + (char) c, blank ? SOUND : 0);
            fault("lend 1;" + (char) c, blank ? SOUND : 7);
            fault((char) c + "lend 1;", blank ? SOUND : 0);
            fault("lend 1" + (char) c, c >= '0' && c <= '9' || blank ? 7 : c == ';' ? SOUND : 6);
        }
    }

    private static void eachByteBehindANumber() {
        CHECK.promise("term 2, each of the 256 bytes behind a number");
        for (int c = 0; c < 256; c++) {
            boolean goesOn = "+-*/".indexOf(c) >= 0;
            boolean sound = c == 32 || c == 10 || c >= '0' && c <= '9';
            fault("units 3" + (char) c + ";", sound ? SOUND : goesOn || c == ';' ? 8 : 7);
            fault("stop 3" + (char) c + "4;", "<>=".indexOf(c) >= 0 ? SOUND
                    : c == 32 || c == 10 ? 7 : goesOn ? 8 : c >= '0' && c <= '9' ? 8 : 6);
        }
    }

    private static void eachByteBehindAWord() {
        CHECK.promise("term 2, each of the 256 bytes behind a word");
        for (int c = 0; c < 256; c++) {
            boolean sound = c == 32 || c == 10 || c >= '0' && c <= '9';
            fault("units" + (char) c + "3;", sound ? SOUND : letter(c) ? 0 : c == '(' ? 7 : 5);
        }
    }

    private static void wordsLetterByLetter() {
        CHECK.promise("term 2, each word by all of its letters");
        String[] texts = {"@units@ 1;", "@trip@ 1;", "@stop@ 1<1;", "@worth@ 1;", "@lapse@ 1;", "@lend@ 1;", "@waste@ 1;",
            "@doubt@ 1;", "trip 1 @if@ 1<1;", "stop 1<1 @or@ 1<1;", "stop 1<1 @and@ 1<1;", "stop @not@ 1<1;",
            "trip @least@(1,1);", "trip @most@(1,1);", "trip @class@;", "trip @size@;", "trip @town@;", "trip @month@;",
            "trip @miles@;", "trip @people@;", "trip @reason@;"};
        for (String each : texts) {
            int from = each.indexOf('@');
            int to = each.lastIndexOf('@') - 1;
            String text = each.replace("@", "");
            fault(text, SOUND);
            for (int k = from; k < to; k++) {
                StringBuilder other = new StringBuilder(text);
                other.setCharAt(k, text.charAt(k) == 'z' ? 'y' : 'z');
                fault(other.toString(), from);
                fault(text.substring(0, k) + text.substring(k + 1), from);
                fault(text.substring(0, k) + Character.toUpperCase(text.charAt(k)) + text.substring(k + 1),
                        k > from ? from : k);
                fault(text.substring(0, k) + "z" + text.substring(k), from);
            }
            fault(text.substring(0, to) + "s" + text.substring(to), from);
        }
    }

    // ---- open ones

    /** A text with so many open: bits of which tell one opener from another, first those of a COND. */
    private static String openers(int conds, int all, int which) {
        StringBuilder b = new StringBuilder(conds > 0 || which % 2 == 0 ? "stop " : "trip ");
        String[] ofCond = {"not ", "{"};
        String[] ofEx = {"(", "least(", "most(7,", "(2+", "1*most("};
        for (int k = 0; k < all; k++) {
            b.append(k < conds ? ofCond[(which >> k & 1)] : ofEx[(which >> k) % 5]);
        }
        return b.toString();
    }

    /** What closes them, behind "1". */
    private static String closers(int conds, int all, int which) {
        StringBuilder b = new StringBuilder();
        for (int k = all - 1; k >= 0; k--) {
            if (k == conds - 1 || k == all - 1 && conds == all) {
                b.append("<1");
            }
            int kind = (which >> k) % 5;
            b.append(k < conds ? (which >> k & 1) == 1 ? "}" : "" : kind == 1 || kind == 4 ? ",1)" : ")");
        }
        return b.append(conds == 0 && which % 2 == 0 ? "<1" : "").append(";").toString();
    }

    private static void nineOpen() {
        CHECK.saysOfTerm(2, "\"(\", \"{\", \"least\", \"most\", \"not\": at most 9 open in one another.");
        for (int conds = 0; conds <= 9; conds++) {
            for (int which = 0; which < 512; which += 7) {
                for (int all = Math.max(1, conds); all <= 9; all += 4 - all % 4) {
                    fault(openers(conds, all, which) + "1" + closers(conds, all, which), SOUND);
                }
                fault(openers(conds, 9, which) + "1" + closers(conds, 9, which), SOUND);
            }
        }
    }

    private static void tenthOpen() {
        CHECK.saysOfTerm(2, "(a number beyond its bounds, the tenth open, too)");
        for (int conds = 0; conds <= 9; conds++) {
            for (int which = 0; which < 512; which += 11) {
                String nine = openers(conds, 9, which);
                String[] tenths = conds == 9 ? new String[] {"not 1<1", "{1<1", "(1", "least(1,1", "most(1,1"}
                        : new String[] {"(1)", "least(1,1)", "most(1,1)", "least", "most"};
                for (String tenth : tenths) {
                    fault(nine + tenth + closers(conds, 9, which), nine.length());
                }
            }
        }
        // Of "least" and "most" the word is the FAULT; both of what is in it are in it.
        fault("trip ((((((((least(1,(2)))))))))));", 5 + 8 + 8);
        fault("trip ((((((((least((1),2)))))))));", 5 + 8 + 6);
        fault("trip (((((((least((1),(2)))))))));", SOUND);
        fault("trip (((((((((least", 14);
        fault("trip (((((((((most(1,2", 14);
        fault("stop {{{{{{{{{not", 14);
        fault("stop {{{{{{{{{(1)", 14);
    }

    private static void closedAgain() {
        CHECK.promise("term 2, what is closed is open no more");
        String nine = "(".repeat(9) + "1" + ")".repeat(9);
        fault("trip " + nine + "+" + nine + "*" + nine + "-" + nine + "/" + nine + ";", SOUND);
        fault("trip " + nine + "+(" + nine + ");", 5 + 19 + 2 + 8);
        fault("trip " + nine + ";trip " + nine + " if " + nine + "<" + nine + ";stop " + nine + "=" + nine + ";", SOUND);
        String nots = "not ".repeat(9) + "1<1";
        fault("stop " + nots + " and " + nots + " or " + nots + " and " + nots + ";", SOUND);
        String braces = "{".repeat(9) + "1<1" + "}".repeat(9);
        fault("stop " + braces + " or " + braces + " and " + braces + ";", SOUND);
        // "not" is open till its one ends, not till the next "and" ends.
        fault("stop not {1<1 and " + "not ".repeat(7) + "1<1} and " + nots + ";", SOUND);
        fault("stop not {1<1 and " + "not ".repeat(8) + "1<1};", 5 + 13 + 4 * 7);
        fault("stop not (1)<(((((((((1;", 13 + 8);
        fault("trip most(" + "(".repeat(8) + "1" + ")".repeat(8) + "," + "(".repeat(8) + "1" + ")".repeat(8) + ");", SOUND);
        fault("trip most(" + "(".repeat(8) + "1" + ")".repeat(8) + "," + "(".repeat(9), 10 + 17 + 1 + 8);
    }

    // ---- statements and FAULTS

    private static void statementsUpTo24() {
        CHECK.saysOfTerm(2, "At most 24 statements.");
        String[] kinds = {"lend 1;", "stop 1<1;", "units 1;", "trip 1 if 1<1;", "worth 1;"};
        for (String kind : kinds) {
            for (int times : new int[] {1, 2, 23, 24}) {
                fault(kind.repeat(times), SOUND);
            }
            fault(" \n" + kind.repeat(24) + "\n ", SOUND);
        }
        PetrolBoard b = new PetrolBoard();
        b.holder(1, 0, 1, 0, 0);
        CHECK.due(Check.tell(b, "units 1 if 1<1;".repeat(23) + "units 7;", 0), 0);
        CHECK.due(b.units(0, 0, 0), 7);
        CHECK.due(Check.tell(b, "units 7;" + "lend 1;".repeat(22) + "stop 1=1;", 0), 1);
        CHECK.due(b.units(0, 0, 0), 0);
        CHECK.due(Check.tell(b, "stop 1=1;units 7;" + "lend 1;".repeat(22), 0), 2);
        CHECK.due(b.units(0, 0, 0), 0);
        CHECK.due(Check.tell(b, "lend 3;".repeat(23) + "lend 9;", 0), 3);
        CHECK.due(b.rule(0, 0, 2), 9);
    }

    private static void statement25() {
        CHECK.saysOfTerm(2, "the 25th statement: where it begins.");
        String all = "lend 1;".repeat(24);
        for (String next : new String[] {"lend 1;", "lend", "units 1;", "stop", ";", "7", "@", "zzz", "1234567", "(", "}"}) {
            fault(all + next, 168);
            fault(all + " \n" + next, 170);
        }
        fault("lend 1;".repeat(30), 168);
        fault("lend 1;".repeat(71), 168);
        // A FAULT ahead of it is the first.
        fault("lend 1;".repeat(23) + "lend;lend 1;", 165);
        fault("lend 1;".repeat(23) + "lend 1", 167);
    }

    private static void moreMustCome() {
        CHECK.saysOfTerm(2, "the text's length, if more must come");
        String[] cut = {"units", "units 1", "units 1+", "units 1 if", "units 1 if 1", "units 1 if 1<", "units 1 if 1<1",
            "units 1 if 1<1 or", "units 1 if 1<1 and", "units 1 if not", "units 1 if {", "units 1 if {1<1", "stop", "trip (",
            "trip (1", "trip least", "trip least(", "trip least(1", "trip least(1,", "trip least(1,1", "worth", "worth 1",
            "units 1*", "units 1/", "units size", "trip most(1,1)"};
        for (String each : cut) {
            fault(each, each.length());
            fault(each + "  ", each.length() + 2);
            fault(each + "\n", each.length() + 1);
            fault("lend 1;" + each + " ", each.length() + 8);
        }
    }

    private static void firstTokenAtFault() {
        CHECK.saysOfTerm(2, "the place of the first byte of the first token (or byte that begins none) with which no such text goes on");
        fault("  units  zz", 9);
        fault("\n\nunits\n7\n7\n;", 10);
        fault("units 1;units units;", 14);
        fault("lend 5+;", 6);
        fault("units \u0000;", 6);
        fault("units 1 \u00ff;", 8);
        fault("units 1;\t", 8);
        fault("@ units zz", 0);
        fault("units zz @", 6);
        fault("if 1<1;", 0);
        fault("units or;", 6);
        fault("stop 1<1 if 1<1;", 9);
        fault("stop {1<1} < 1;", 11);
        fault("stop ({1<1});", 6);
        fault("stop (1)<1 and {2};", 17);
        fault("units not 1;", 6);
        fault("units least;", 11);
        fault("units (least(1,1),1);", 17);
        fault("units 1 if least(1,1);", 21);
    }

    private static void latestOrders() {
        CHECK.says(9, "The FAULT's place of the latest orders() that was a number or NONE; NONE: it had none.");
        PetrolBoard b = new PetrolBoard();
        CHECK.due(b.fault(), -1);
        CHECK.due(b.orders(1, 0), -2);
        CHECK.due(b.fault(), -1);
        CHECK.due(Check.tell(b, "lend 1", 0), -1);
        CHECK.due(b.fault(), 6);
        CHECK.due(b.orders(-1, 0), -2);
        CHECK.due(b.orders(1, 0), -2);
        CHECK.due(b.orders(0, 24), -2);
        CHECK.due(b.orders(0, -1), -2);
        CHECK.due(b.fault(), 6);
        CHECK.due(Check.tell(b, "?", 0), -1);
        CHECK.due(b.fault(), 0);
        for (int k = 0; k < 12; k++) {
            CHECK.due(Check.tell(b, "lend 1;", 0), k);
            CHECK.due(b.fault(), -1);
        }
        CHECK.due(Check.tell(b, "?", 0), -3);
        CHECK.due(b.fault(), -1);
        CHECK.due(b.count(12), 20);
        PetrolBoard faulty = new PetrolBoard();
        for (int k = 0; k < 12; k++) {
            CHECK.due(faulty.orders(0, 0), k);
        }
        CHECK.due(faulty.orders(0, 0), -3);
        CHECK.due(faulty.fault(), -1);
    }

    private static void toldUpTo12() {
        CHECK.saysOfTerm(2, "Told (up to 12)");
        PetrolBoard b = new PetrolBoard();
        for (int k = 0; k < 12; k++) {
            // A FAULT is none of the twelve.
            CHECK.due(Check.tell(b, "lend", 0), -1);
            CHECK.due(b.count(3), k);
            CHECK.due(Check.tell(b, "lend " + k + ";", 0), k);
            CHECK.due(b.rule(0, 0, 2), k);
            CHECK.due(b.rule(0, 0, 5), k);
        }
        CHECK.due(Check.tell(b, "lend 77;", 0), -3);
        CHECK.due(b.rule(0, 0, 2), 11);
        CHECK.due(b.rule(0, 0, 5), 11);
        CHECK.due(b.day(700), true);
        CHECK.due(b.orders(8, 23), -3);
        CHECK.due(b.rule(23, 719, 5), 11);
    }

    private static void monthsFromOneOn() {
        CHECK.saysOfTerm(2, "for MONTHS from one on (0 to 23)");
        for (int from = -1; from <= 24; from++) {
            PetrolBoard b = new PetrolBoard();
            Check.feed(b, "lend 9;");
            boolean is = from >= 0 && from < 24;
            CHECK.due(b.orders(7, from), is ? 0 : -2);
            CHECK.due(b.count(12), is ? 0 : 20);
            for (int month = -1; month <= 24; month++) {
                boolean asked = month >= 0 && month < 24;
                CHECK.due(b.rule(month, 0, 5), asked && is && month >= from ? 0 : -1);
                CHECK.due(b.rule(month, 0, 2), !asked ? -1 : is && month >= from ? 9 : 5);
            }
        }
        CHECK.promise("a MONTH that has gone by, too");
        PetrolBoard b = new PetrolBoard();
        b.day(719);
        CHECK.due(Check.tell(b, "lend 9;", 0), 0);
        CHECK.due(b.rule(0, 718, 5), -1);
        CHECK.due(b.rule(0, 719, 5), 0);
    }
}
