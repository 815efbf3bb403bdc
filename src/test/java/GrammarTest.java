import java.math.BigInteger;
import java.util.ArrayList;
import java.util.HashMap;
import java.util.HashSet;
import java.util.List;
import java.util.Map;
import java.util.Random;
import java.util.Set;
import java.util.regex.Matcher;
import java.util.regex.Pattern;

/**
 * Promises 8, 9 and 11 by another road: FAULTS by an Earley recognizer that has the grammar as rules (a token is
 * at FAULT if no item of the grammar goes over it), EX and COND by trees reckoned with big numbers.
 */
public final class GrammarTest {
    private static final Check CHECK = new Check("GrammarTest");
    private static final Pattern TOKEN = Pattern.compile("[ \n]+|[a-z]+|[0-9]+|[\\s\\S]");
    private static final String WORDS = " units trip stop worth lapse lend waste doubt if or and not least most "
            + "class size town month miles people reason ";
    private static final String SIGNS = "+-*/(){},;<>=";
    private static final String[] PIECES = {"units", "trip", "stop", "worth", "lapse", "if", "or", "and", "not",
        "least", "most", "class", "reason", "size", "+", "-", "*", "/", "(", ")", "{", "}", ",", ";", "<", ">", "=",
        "0", "7", "123456", "1234567", " ", "\n", "a", "@", "\u00ff", "000"};

    private static final Map<String, List<String[]>> RULES = new HashMap<>();

    private final Random random;
    private final StringBuilder text = new StringBuilder();

    private GrammarTest(Random random) {
        this.random = random;
    }

    public static void main(String[] args) {
        putRules();
        faults();
        trees();
        CHECK.finish();
    }

    // ---- the grammar as rules; a name's digit is how many are open

    private static void rule(String name, String... parts) {
        RULES.computeIfAbsent(name, n -> new ArrayList<>()).add(parts);
    }

    private static void putRules() {
        rule("TEXT0");
        for (int k = 1; k <= 24; k++) {
            rule("TEXT" + k);
            rule("TEXT" + k, "RULE", ";", "TEXT" + (k - 1));
        }
        for (String head : new String[] {"units", "trip"}) {
            rule("RULE", head, "EX0");
            rule("RULE", head, "EX0", "if", "COND0");
        }
        rule("RULE", "stop", "COND0");
        rule("RULE", "worth", "number");
        for (String head : new String[] {"lapse", "lend", "waste", "doubt"}) {
            rule("RULE", head, "NUMBER");
        }
        rule("NUMBER", "number");
        rule("NUMBER", "nought");
        for (int d = 0; d <= 9; d++) {
            putRulesOf(d, d + 1);
        }
    }

    private static void putRulesOf(int d, int deeper) {
        rule("EX" + d, "PROD" + d);
        rule("EX" + d, "EX" + d, "+", "PROD" + d);
        rule("EX" + d, "EX" + d, "-", "PROD" + d);
        rule("PROD" + d, "ATOM" + d);
        rule("PROD" + d, "PROD" + d, "*", "ATOM" + d);
        rule("PROD" + d, "PROD" + d, "/", "ATOM" + d);
        rule("ATOM" + d, "NUMBER");
        rule("ATOM" + d, "name");
        rule("COND" + d, "ALL" + d);
        rule("COND" + d, "COND" + d, "or", "ALL" + d);
        rule("ALL" + d, "ONE" + d);
        rule("ALL" + d, "ALL" + d, "and", "ONE" + d);
        for (String sign : new String[] {"<", ">", "="}) {
            rule("ONE" + d, "EX" + d, sign, "EX" + d);
        }
        if (deeper <= 9) {
            rule("ATOM" + d, "(", "EX" + deeper, ")");
            rule("ATOM" + d, "least", "(", "EX" + deeper, ",", "EX" + deeper, ")");
            rule("ATOM" + d, "most", "(", "EX" + deeper, ",", "EX" + deeper, ")");
            rule("ONE" + d, "{", "COND" + deeper, "}");
            rule("ONE" + d, "not", "ONE" + deeper);
        }
    }

    // ---- the recognizer

    private record Item(String name, String[] parts, int dot, int from) {
        @Override
        public boolean equals(Object o) {
            return o instanceof Item i && parts == i.parts && dot == i.dot && from == i.from;
        }

        @Override
        public int hashCode() {
            return System.identityHashCode(parts) * 31 * 31 + dot * 31 + from;
        }
    }

    private static String kindOf(String token) {
        char c = token.charAt(0);
        if (c >= '0' && c <= '9') {
            return token.length() > 6 ? "bad" : Integer.parseInt(token) == 0 ? "nought" : "number";
        }
        if (c >= 'a' && c <= 'z') {
            int at = WORDS.indexOf(" " + token + " ");
            return at < 0 ? "bad" : at >= WORDS.indexOf(" class ") ? "name" : token;
        }
        return SIGNS.indexOf(c) >= 0 ? token : "bad";
    }

    private static int faultOf(String text) {
        List<List<Item>> sets = new ArrayList<>();
        sets.add(new ArrayList<>());
        Set<Item> seen = new HashSet<>();
        for (String[] parts : RULES.get("TEXT24")) {
            add(sets.get(0), seen, new Item("TEXT24", parts, 0, 0));
        }
        close(sets, seen);
        Matcher matcher = TOKEN.matcher(text);
        while (matcher.find()) {
            String token = matcher.group();
            if (token.charAt(0) == ' ' || token.charAt(0) == '\n') {
                continue;
            }
            String kind = kindOf(token);
            List<Item> next = new ArrayList<>();
            seen = new HashSet<>();
            for (Item i : sets.get(sets.size() - 1)) {
                if (i.dot < i.parts.length && i.parts[i.dot].equals(kind)) {
                    add(next, seen, new Item(i.name, i.parts, i.dot + 1, i.from));
                }
            }
            if (next.isEmpty()) {
                return matcher.start();
            }
            sets.add(next);
            close(sets, seen);
        }
        for (Item i : sets.get(sets.size() - 1)) {
            if (i.name.equals("TEXT24") && i.dot == i.parts.length && i.from == 0) {
                return -1;
            }
        }
        return text.length();
    }

    private static void add(List<Item> set, Set<Item> seen, Item item) {
        if (seen.add(item)) {
            set.add(item);
        }
    }

    private static void close(List<List<Item>> sets, Set<Item> seen) {
        int here = sets.size() - 1;
        List<Item> set = sets.get(here);
        for (int k = 0; k < set.size(); k++) {
            Item i = set.get(k);
            if (i.dot == i.parts.length) {
                List<Item> back = sets.get(i.from);
                for (int m = 0; m < back.size(); m++) {
                    Item b = back.get(m);
                    if (b.dot < b.parts.length && b.parts[b.dot].equals(i.name)) {
                        add(set, seen, new Item(b.name, b.parts, b.dot + 1, b.from));
                    }
                }
            } else if (RULES.containsKey(i.parts[i.dot])) {
                for (String[] parts : RULES.get(i.parts[i.dot])) {
                    add(set, seen, new Item(i.parts[i.dot], parts, 0, here));
                }
                // A TEXT may be nothing.
                if (i.parts[i.dot].startsWith("TEXT")) {
                    add(set, seen, new Item(i.name, i.parts, i.dot + 1, i.from));
                }
            }
        }
    }

    // ---- texts out of the grammar, then changed

    private void derive(String name, int left) {
        List<String[]> ways = RULES.get(name);
        if (ways == null) {
            String token = name.equals("number") ? "" + (1 + random.nextInt(999_999))
                    : name.equals("nought") ? "0000".substring(random.nextInt(4))
                    : name.equals("name") ? WORDS.substring(WORDS.indexOf(" class ")).trim().split(" ")[random.nextInt(7)]
                    : name;
            boolean joins = text.length() > 0 && Character.isLetterOrDigit(text.charAt(text.length() - 1))
                    && Character.isLetterOrDigit(token.charAt(0));
            text.append(joins || random.nextInt(8) == 0 ? random.nextInt(5) == 0 ? "\n" : " " : "").append(token);
            return;
        }
        String[] way = ways.get(left <= 0 ? 0 : random.nextInt(ways.size()));
        if (name.startsWith("ONE") && left <= 0) {
            way = ways.get(random.nextInt(3));
        }
        for (String part : way) {
            derive(part, left - 1);
        }
    }

    private String changed(String sound) {
        StringBuilder b = new StringBuilder(sound);
        int times = random.nextInt(3);
        for (int k = 0; k < times; k++) {
            int at = random.nextInt(b.length() + 1);
            switch (random.nextInt(4)) {
                case 0:
                    b.insert(at, PIECES[random.nextInt(PIECES.length)]);
                    break;
                case 1:
                    b.delete(at, Math.min(b.length(), at + 1 + random.nextInt(4)));
                    break;
                case 2:
                    b.setLength(at);
                    break;
                default:
                    b.insert(at, " " + PIECES[random.nextInt(PIECES.length)] + " ");
                    break;
            }
        }
        return b.length() > 500 ? b.substring(0, 500) : b.toString();
    }

    private static void faults() {
        CHECK.promise("promise 9 by an Earley recognizer");
        Random random = new Random(8);
        int sound = 0;
        for (int run = 0; run < 4000; run++) {
            GrammarTest made = new GrammarTest(random);
            int statements = random.nextInt(6) == 0 ? 23 + random.nextInt(4) : random.nextInt(4);
            for (int k = 0; k < statements; k++) {
                made.derive("RULE", statements > 20 ? 3 : 4 + random.nextInt(14));
                made.text.append(';');
            }
            if (random.nextInt(8) == 0) {
                made.text.append(random.nextInt(2) == 0 ? " stop " : " trip ");
                for (int k = 0; k < 12; k++) {
                    String[] openers = {"not ", "{", "(", "least(", "most(1,"};
                    made.text.append(openers[random.nextInt(k < 4 ? 5 : 3)]);
                }
            }
            String text = made.changed(made.text.toString());
            int due = faultOf(text);
            sound += due < 0 ? 1 : 0;
            PetrolBoard b = new PetrolBoard();
            int got = Check.tell(b, text, 0);
            CHECK.due(got, due < 0 ? 0 : -1);
            CHECK.due(b.fault(), due);
            if (b.fault() != due) {
                System.out.println("  text: " + text);
            }
        }
        CHECK.due(sound > 500 && sound < 3500, true);
    }

    // ---- trees

    private static final BigInteger BOUND = BigInteger.TEN.pow(9);
    private static final int[] NAMES = {3, 4, 7, 2, 0, 0, 0};

    private static BigInteger held(BigInteger v) {
        return v.min(BOUND).max(BOUND.negate());
    }

    /** Writes an EX and answers its value; level 0 may stand anywhere, 1 in a PROD, 2 as an ATOM. */
    private BigInteger ex(int level, int open, int size) {
        int pick = size <= 0 ? random.nextInt(2) : random.nextInt(9);
        if (pick == 0) {
            int n = random.nextInt(3) == 0 ? random.nextInt(1_000_000) : random.nextInt(12);
            text.append(n);
            return BigInteger.valueOf(n);
        }
        if (pick == 1) {
            int k = random.nextInt(7);
            text.append(WORDS.substring(WORDS.indexOf(" class ")).trim().split(" ")[k]);
            return BigInteger.valueOf(NAMES[k]);
        }
        if (pick == 2 && open < 9) {
            boolean least = random.nextInt(2) == 0;
            text.append(least ? "least(" : "most(");
            BigInteger a = ex(0, open + 1, size - 1);
            text.append(",");
            BigInteger b = ex(0, open + 1, size - 1);
            text.append(")");
            return least ? a.min(b) : a.max(b);
        }
        boolean product = pick % 2 == 0;
        boolean enclosed = level == 2 || level == 1 && !product;
        if (enclosed && open >= 9) {
            return ex(level, open, 0);
        }
        int deeper = enclosed ? open + 1 : open;
        text.append(enclosed ? "(" : "");
        BigInteger value = product ? product(deeper, size) : sum(deeper, size);
        text.append(enclosed ? ")" : "");
        return value;
    }

    private BigInteger sum(int open, int size) {
        BigInteger value = ex(1, open, size - 1);
        for (int k = random.nextInt(3); k >= 0; k--) {
            boolean plus = random.nextInt(2) == 0;
            text.append(plus ? "+" : "-");
            BigInteger b = ex(1, open, size - 1);
            value = held(plus ? value.add(b) : value.subtract(b));
        }
        return value;
    }

    private BigInteger product(int open, int size) {
        BigInteger value = ex(2, open, size - 1);
        for (int k = random.nextInt(3); k >= 0; k--) {
            boolean times = random.nextInt(2) == 0;
            text.append(times ? "*" : "/");
            BigInteger b = ex(2, open, size - 1);
            value = times ? held(value.multiply(b)) : b.signum() == 0 ? BigInteger.ZERO : value.divide(b);
        }
        return value;
    }

    /** Writes a COND; level 0 may be joined by "or", 1 by "and", 2 is one. */
    private boolean cond(int level, int open, int size) {
        int pick = size <= 0 ? 0 : random.nextInt(5);
        if (pick == 1 && open < 9) {
            text.append("not ");
            return !cond(2, open + 1, size - 1);
        }
        boolean or = pick == 2 || pick == 4;
        boolean enclosed = pick >= 2 && (level == 2 || level == 1 && or);
        if (pick < 2 || enclosed && open >= 9) {
            BigInteger a = ex(0, open, size - 2);
            char sign = "<>=".charAt(random.nextInt(3));
            text.append(sign);
            int way = a.compareTo(ex(0, open, size - 2));
            return sign == '<' ? way < 0 : sign == '>' ? way > 0 : way == 0;
        }
        int deeper = enclosed ? open + 1 : open;
        text.append(enclosed ? "{" : "");
        boolean value = cond(or ? 1 : 2, deeper, size - 1);
        for (int k = random.nextInt(2); k >= 0; k--) {
            text.append(or ? " or " : " and ");
            boolean b = cond(or ? 1 : 2, deeper, size - 1);
            value = or ? value || b : value && b;
        }
        text.append(enclosed ? "}" : "");
        return value;
    }

    private static String written(BigInteger value) {
        int v = Math.abs(value.intValueExact());
        String text = v / 1_000_000 + "*1000*1000+" + v % 1_000_000;
        return value.signum() < 0 ? "0-(" + text + ")" : text;
    }

    private static void trees() {
        Random random = new Random(21);
        int greatest = 0;
        for (int run = 0; run < 3000; run++) {
            CHECK.promise("promise 11, an EX by a tree");
            GrammarTest made = new GrammarTest(random);
            BigInteger value = made.ex(0, 0, 1 + random.nextInt(5));
            tried("units 55 if " + made.text + "=" + written(value) + ";units 66;", 55);
            greatest += value.abs().equals(BOUND) ? 1 : 0;
            CHECK.promise("promise 11, a COND by a tree");
            GrammarTest asked = new GrammarTest(random);
            boolean holds = asked.cond(0, 0, 1 + random.nextInt(6));
            tried("units 55 if " + asked.text + ";units 66;", holds ? 55 : 66);
        }
        CHECK.due(greatest > 20, true);
    }

    private static void tried(String text, int due) {
        if (text.length() > 500) {
            return;
        }
        PetrolBoard b = new PetrolBoard();
        b.holder(NAMES[1], NAMES[2], 1, 0, 0);
        b.note(0, NAMES[0], 60);
        CHECK.due(Check.tell(b, text, 0), 0);
        CHECK.due(b.units(0, NAMES[3], 0), due);
        if (b.units(0, NAMES[3], 0) != due) {
            System.out.println("  text: " + text);
        }
    }
}
