import java.util.ArrayList;
import java.util.Arrays;
import java.util.HashMap;
import java.util.List;
import java.util.Map;
import java.util.Random;
import java.util.function.Predicate;
import java.util.function.ToIntFunction;

/**
 * All promises together: long random runs against a plain second telling of the document (lists and maps, all
 * reckoned anew for each question), and runs with wild numbers that only must not throw.
 */
public final class SoakTest {
    private static final Check CHECK = new Check("SoakTest");
    private static final int NONE = -1;
    private static final int NO_AMOUNT = -2_000_000_000;

    public static void main(String[] args) {
        CHECK.promise("all promises");
        for (int seed = 0; seed < 600; seed++) {
            new SoakTest(seed).run();
        }
        CHECK.promise("no call throws");
        for (int seed = 0; seed < 200; seed++) {
            wild(new Random(seed));
        }
        CHECK.finish();
    }

    // ---- the second telling

    private record Holder(int size, int town, int seats, int bid, int need) { }

    private static final class Note {
        int holder;
        int kind;
        int from;
        int told;
        Integer undone;
    }

    private record Env(int kind, int size, int town, int month, int miles, int people, int reason) { }

    private record Statement(String head, ToIntFunction<Env> ex, Predicate<Env> cond) { }

    private record Told(int month, int day, List<Statement> statements) { }

    private record Lent(int coupon, int to) { }

    private record Event(String what, int number, int day) { }

    private static final class Pour {
        int station;
        int holder;
        int coupon;
        int day;
        int tenths;
        int judged = NONE;
        boolean dyed;
        int owner;
    }

    private static final class Journey {
        int holder;
        int miles;
        int people;
        int reason;
        int day;
        int way;
        int asked;
        int granted;
        int first;
    }

    private final Random random;
    private final PetrolBoard b = new PetrolBoard();
    private int today;
    private final List<Holder> holders = new ArrayList<>();
    private final List<Note> notes = new ArrayList<>();
    private final List<Told> told = new ArrayList<>();
    private final Map<Integer, Integer> books = new HashMap<>();
    private final List<Lent> lent = new ArrayList<>();
    private final List<Pour> pours = new ArrayList<>();
    private final List<List<Event>> stations = new ArrayList<>();
    // What each DIP told; the number of a DIP's event is its place here.
    private final List<List<Integer>> levels = new ArrayList<>();
    private final Map<Integer, Integer> row = new HashMap<>();
    private final List<Integer> ports = new ArrayList<>();
    private final List<Journey> journeys = new ArrayList<>();

    private SoakTest(int seed) {
        random = new Random(seed);
    }

    private int kindOn(int holder, int day, int known) {
        Note best = null;
        for (Note n : notes) {
            boolean isKnown = n.told <= known && (n.undone == null || n.undone > known);
            if (n.holder == holder && isKnown && n.from <= day && (best == null || n.from >= best.from)) {
                best = n;
            }
        }
        return best == null ? 0 : best.kind;
    }

    private Told inForce(int month, int known) {
        Told best = null;
        for (Told t : told) {
            if (t.day <= known && t.month <= month && (best == null || t.month >= best.month)) {
                best = t;
            }
        }
        return best;
    }

    private int amount(String head, int usual, int month, int known) {
        Told t = inForce(month, known);
        int answer = usual;
        for (Statement s : t == null ? List.<Statement>of() : t.statements) {
            answer = s.head.equals(head) ? s.ex.applyAsInt(null) : answer;
        }
        return answer;
    }

    private int worth(int month) {
        return amount("worth", 10, month, today);
    }

    private int unitsOf(int holder, int month, int known) {
        Told t = inForce(month, known);
        Holder h = holders.get(holder);
        Env env = new Env(kindOn(holder, 30 * month, known), h.size, h.town, month, 0, 0, 0);
        if (t == null || t.statements.stream().anyMatch(s -> s.head.equals("stop") && s.cond.test(env))) {
            return 0;
        }
        return firstOf(t, "units", env);
    }

    private static int firstOf(Told t, String head, Env env) {
        return t.statements.stream().filter(s -> s.head.equals(head) && s.cond.test(env))
                .findFirst().map(s -> Math.max(0, Math.min(99, s.ex.applyAsInt(env)))).orElse(0);
    }

    private int grant(Journey j, int known) {
        Told t = inForce(j.day / 30, known);
        Holder h = holders.get(j.holder);
        Env env = new Env(kindOn(j.holder, j.day, known), h.size, h.town, j.day / 30, j.miles, j.people, j.reason);
        return t == null ? 0 : firstOf(t, "trip", env);
    }

    private boolean exists(int coupon) {
        return coupon >= 0 && coupon % 100 < books.getOrDefault(coupon / 100, 0);
    }

    private int ownerOf(int coupon) {
        if (!exists(coupon)) {
            return NONE;
        }
        return lent.stream().filter(l -> l.coupon == coupon).map(l -> l.to).findFirst().orElse(coupon / 2400);
    }

    private boolean handedIn(int coupon) {
        return pours.stream().anyMatch(p -> p.coupon == coupon && p.judged >= 0);
    }

    private int verdict(Pour p) {
        if (!exists(p.coupon)) {
            return 1;
        }
        if (handedIn(p.coupon)) {
            return 2;
        }
        int month = p.coupon / 100 % 24;
        int used = p.day / 30;
        if (used < month || used - month > amount("lapse", 1, month, p.day)) {
            return 3;
        }
        return p.owner == p.holder ? 0 : 4;
    }

    private boolean farmer(int holder) {
        return kindOn(holder, today, today) == 2;
    }

    private List<Event> dipsOf(int station) {
        return stations.get(station).stream().filter(e -> e.what.equals("dip")).toList();
    }

    private int inOf(int station, int k) {
        List<Event> dips = dipsOf(station);
        List<Event> all = stations.get(station);
        int sum = 0;
        for (Event e : all.subList(all.indexOf(dips.get(k)), all.indexOf(dips.get(k + 1)))) {
            sum += e.what.equals("deliver") ? e.number : 0;
            if (e.what.equals("pour") && !List.of(1, 2, 4).contains(pours.get(e.number).judged)) {
                sum -= pours.get(e.number).tenths;
            }
        }
        int days = dips.get(k + 1).day - dips.get(k).day;
        return sum - days * amount("waste", 0, dips.get(k).day / 30, today);
    }

    private int[] bounds(int station, int k) {
        int doubt = amount("doubt", 20, dipsOf(station).get(k).day / 30, today);
        int told = levels.get(station).get(k);
        return new int[] {Math.max(0, told - doubt), told + doubt};
    }

    /** By all pairs of a first LEVEL and the highest last that it allows. */
    private long sumsOf(int station, int i, int j, int what) {
        long in = 0;
        long least = Long.MAX_VALUE;
        long most = Long.MIN_VALUE;
        for (int k = i; k < j; k++) {
            in += inOf(station, k);
        }
        int[] first = bounds(station, i);
        for (int start = first[0]; start <= first[1]; start++) {
            long high = start;
            boolean can = true;
            for (int k = i + 1; k <= j && can; k++) {
                int[] bound = bounds(station, k);
                high = Math.min(bound[1], high + inOf(station, k - 1));
                can = high >= bound[0];
            }
            if (can) {
                least = Math.min(least, in + start - high);
                most = Math.max(most, in + start - bounds(station, j)[0]);
            }
        }
        return least > most ? -3 : what == 0 ? least : most;
    }

    private long judgedBy(int station, int i, int j) {
        long sum = 0;
        for (int k = i; k <= j; k++) {
            int level = row.getOrDefault(k - i, NONE);
            int[] bound = bounds(station, k);
            long black = k == i ? 0 : inOf(station, k - 1) + row.get(k - i - 1) - level;
            if (level < bound[0] || level > bound[1] || black < 0) {
                return NONE;
            }
            sum += black;
        }
        return sum;
    }

    private List<Integer> likesOf(int own) {
        Journey o = journeys.get(own);
        List<Integer> likes = new ArrayList<>();
        for (int k = 0; k < journeys.size(); k++) {
            Journey j = journeys.get(k);
            boolean same = kindOn(j.holder, j.day, today) == kindOn(o.holder, o.day, today)
                    && j.people == o.people && j.reason == o.reason;
            if (k != own && same && Math.abs(j.miles - o.miles) <= o.miles / 10 && j.granted != o.granted) {
                likes.add(k);
            }
        }
        return likes;
    }

    private int[] dealtBy(int way, int month) {
        int[] units = new int[holders.size()];
        Arrays.setAll(units, h -> unitsOf(h, month, today));
        int sum = Arrays.stream(units).sum();
        if (way == 1) {
            Arrays.fill(units, sum / Math.max(1, units.length));
        } else if (way == 2) {
            List<Integer> order = new ArrayList<>();
            for (int h = 0; h < units.length; h++) {
                order.add(h);
            }
            order.sort((x, y) -> holders.get(y).bid - holders.get(x).bid);
            for (int h : order) {
                units[h] = Math.min(sum, holders.get(h).need);
                sum -= units[h];
            }
        }
        return units;
    }

    private int foretoldBy(int n, boolean basic) {
        long tenths = 0;
        for (int month = today / 30; month < today / 30 + n; month++) {
            for (int h = 0; h < holders.size(); h++) {
                boolean counts = basic || kindOn(h, 30 * month, today) != 0;
                tenths += counts ? (long) worth(month) * unitsOf(h, month, today) : 0;
            }
        }
        long left = 100L * ports.stream().mapToInt(p -> p).sum() - (long) Math.ceil(tenths / 10.0);
        return (int) Math.max(-1_999_999_999, left);
    }

    // ---- the runs

    private int pick(int bound) {
        return random.nextInt(bound);
    }

    /** Mostly one that is there, now and then one that isn't. */
    private int near(int size) {
        return pick(12) == 0 ? pick(3) == 0 ? -1 : size : size == 0 ? 0 : pick(size);
    }

    private int aCoupon() {
        if (!books.isEmpty() && pick(8) > 0) {
            List<Integer> all = new ArrayList<>(books.keySet());
            int book = all.get(pick(all.size()));
            return 100 * book + pick(Math.max(1, Math.min(4, books.get(book) + 1)));
        }
        return pick(4) == 0 ? pick(100_002) - 1 : 2400 * pick(3) + 100 * (today / 30) + pick(3);
    }

    private void run() {
        tellOrders();
        for (int call = 0; call < 500; call++) {
            switch (pick(8)) {
                case 0: tellSome(); break;
                case 1: askOfHolders(); break;
                case 2: coupons(); break;
                case 3: atStations(); break;
                case 4: askOfStations(); break;
                case 5: askOfPours(); break;
                case 6: goJourneys(); break;
                default: deal(); break;
            }
        }
        int[] counts = {today, holders.size(), notes.size(), told.size(), books.size(), stations.size(), pours.size(),
            (int) pours.stream().filter(p -> p.judged == 0).count(),
            (int) pours.stream().filter(p -> p.judged > 0).count(), lent.size(), ports.size(), journeys.size(), 0, -1};
        for (int what = 0; what < counts.length; what++) {
            CHECK.due(b.count(what), counts[what]);
        }
    }

    private void tellSome() {
        int which = pick(12);
        if (which < 3) {
            int size = 1 + pick(9);
            int seats = 1 + pick(8);
            int bid = pick(5);
            int need = pick(30);
            boolean room = holders.size() < 30;
            CHECK.due(b.holder(size, 1, seats, bid, need), room ? holders.size() : NONE);
            if (room) {
                holders.add(new Holder(size, 1, seats, bid, need));
            }
        } else if (which < 6) {
            tellNote();
        } else if (which < 7) {
            int n = near(notes.size());
            boolean can = n >= 0 && n < notes.size() && notes.get(n).undone == null;
            CHECK.due(b.undo(n), can);
            if (can) {
                notes.get(n).undone = today;
            }
        } else if (which < 9) {
            int d = today + pick(16) - 2;
            CHECK.due(b.day(d), d > today && d < 720);
            today = d < 720 ? Math.max(today, d) : today;
        } else if (which < 10) {
            tellOrders();
        } else if (which < 11) {
            CHECK.due(b.station(), stations.size() < 10 ? stations.size() : NONE);
            if (stations.size() < 10) {
                stations.add(new ArrayList<>());
                levels.add(new ArrayList<>());
            }
        } else {
            int loads = pick(52);
            boolean can = loads <= 50 && ports.size() < 4;
            CHECK.due(b.port(loads), can ? ports.size() : NONE);
            if (can) {
                ports.add(loads);
            }
        }
    }

    private void tellNote() {
        Note n = new Note();
        n.holder = near(holders.size());
        n.kind = pick(6);
        n.from = Math.max(0, today + pick(90) - 40);
        n.told = today;
        boolean can = n.holder >= 0 && n.holder < holders.size() && n.kind < 5 && n.from < 720 && notes.size() < 200;
        CHECK.due(b.note(n.holder, n.kind, n.from), can ? notes.size() : NONE);
        if (can) {
            notes.add(n);
        }
    }

    private void tellOrders() {
        StringBuilder text = new StringBuilder();
        List<Statement> statements = new ArrayList<>();
        for (int k = pick(9); k >= 0; k--) {
            int x = pick(9);
            int y = pick(5);
            int z = pick(3);
            Predicate<Env> always = e -> true;
            switch (pick(10)) {
                case 0: case 1:
                    text.append("units ").append(x).append("*size-").append(y).append(";");
                    statements.add(new Statement("units", e -> x * e.size - y, always));
                    break;
                case 2: case 3:
                    text.append("units ").append(x).append("+month if class=").append(y).append(";\n");
                    statements.add(new Statement("units", e -> x + e.month, e -> e.kind == y));
                    break;
                case 4:
                    text.append("stop class=").append(y).append(" and month>").append(x).append(" ;");
                    statements.add(new Statement("stop", null, e -> e.kind == y && e.month > x));
                    break;
                case 5:
                    text.append("trip miles/(people+").append(z).append(") if not reason<").append(y).append(";");
                    statements.add(new Statement("trip", e -> e.miles / (e.people + z), e -> e.reason >= y));
                    break;
                case 6:
                    text.append("trip most(").append(x).append(",reason*town)+class;");
                    statements.add(new Statement("trip", e -> Math.max(x, e.reason * e.town) + e.kind, always));
                    break;
                default:
                    String head = List.of("worth", "lapse", "lend", "waste", "doubt").get(y);
                    int n = y == 0 ? 1 + x : y == 4 ? 4 * x : y == 3 ? z : x / 3;
                    text.append(head).append(" ").append(n).append(";");
                    statements.add(new Statement(head, e -> n, always));
                    break;
            }
        }
        int month = Math.max(0, Math.min(23, today / 30 + pick(4) - 1));
        boolean room = told.size() < 12;
        if (room) {
            CHECK.due(Check.tell(b, text.toString(), month), told.size());
            told.add(new Told(month, today, statements));
            CHECK.due(b.fault(), NONE);
        }
    }

    private void askOfHolders() {
        int h = near(holders.size());
        int day = pick(722) - 1;
        int near = Math.max(0, Math.min(719, today + pick(60) - 30));
        int known = Math.max(0, Math.min(719, today + pick(14) - 10));
        int month = near / 30;
        boolean is = h >= 0 && h < holders.size();
        boolean isDay = day >= 0 && day < 720;
        CHECK.due(b.classOf(h, day, known), is && isDay ? kindOn(h, day, known) : NONE);
        CHECK.due(b.classOf(h, near, known), is ? kindOn(h, near, known) : NONE);
        CHECK.due(b.units(h, month, known), is ? unitsOf(h, month, known) : NONE);
        CHECK.due(b.rule(month, known, 5), told.indexOf(inForce(month, known)));
        CHECK.due(b.rule(month, known, 0), amount("worth", 10, month, known));
        CHECK.due(b.rule(month, known, 4), amount("doubt", 20, month, known));
    }

    private void coupons() {
        int h = near(holders.size());
        int month = today / 30 + pick(4) - 1;
        boolean is = h >= 0 && h < holders.size();
        if (pick(3) == 0) {
            boolean can = is && month >= today / 30 && month <= today / 30 + 1 && month < 24
                    && !books.containsKey(24 * h + month);
            int units = can ? unitsOf(h, month, today) : NONE;
            CHECK.due(b.issue(h, month), units);
            if (can) {
                books.put(24 * h + month, units);
            }
            return;
        }
        int coupon = aCoupon();
        CHECK.due(b.owner(coupon), ownerOf(coupon));
        if (pick(2) == 0) {
            boolean can = is && exists(coupon) && coupon / 2400 != h && !handedIn(coupon)
                    && lent.stream().noneMatch(l -> l.coupon == coupon)
                    && lent.stream().filter(l -> l.coupon / 100 == coupon / 100).count()
                    < amount("lend", 5, coupon / 100 % 24, today);
            CHECK.due(b.lend(coupon, h), can);
            if (can) {
                lent.add(new Lent(coupon, h));
            }
            CHECK.due(b.owner(coupon), ownerOf(coupon));
        }
    }

    private void atStations() {
        int s = near(stations.size());
        boolean is = s >= 0 && s < stations.size();
        switch (pick(6)) {
            case 0:
                deliver(s, is);
                break;
            case 1:
                dip(s, is);
                break;
            case 2:
                int good = is ? 0 : NONE;
                for (Pour p : pours) {
                    if (is && p.station == s && p.judged == NONE) {
                        p.judged = verdict(p);
                        good += p.judged == 0 ? 1 : 0;
                    }
                }
                CHECK.due(b.handIn(s), good);
                break;
            default:
                pour(s, is);
                break;
        }
    }

    private void deliver(int s, boolean is) {
        int tenths = pick(60);
        boolean can = is && tenths > 0 && stations.get(s).stream().filter(e -> e.what.equals("deliver")).count() < 30;
        if (can) {
            stations.get(s).add(new Event("deliver", tenths, today));
        }
        CHECK.due(b.deliver(s, tenths), !can ? NONE : stations.get(s).stream()
                .filter(e -> e.what.equals("deliver")).mapToInt(e -> e.number).sum());
    }

    private void dip(int s, boolean is) {
        int told = pick(60);
        boolean can = is && levels.get(s).size() < 30;
        CHECK.due(b.dip(s, told), can ? levels.get(s).size() : NONE);
        if (can) {
            stations.get(s).add(new Event("dip", levels.get(s).size(), today));
            levels.get(s).add(told);
        }
    }

    private void pour(int s, boolean is) {
        Pour p = new Pour();
        p.station = s;
        p.holder = near(holders.size());
        p.coupon = aCoupon();
        p.day = today;
        p.tenths = worth(today / 30);
        if (p.holder >= 0 && p.holder < holders.size() && pick(3) > 0 && exists(p.coupon)) {
            p.holder = ownerOf(p.coupon);
        }
        boolean can = is && p.holder >= 0 && p.holder < holders.size() && p.coupon >= 0 && p.coupon <= 99_999
                && pours.size() < 300;
        CHECK.due(b.pour(s, p.holder, p.coupon), can ? pours.size() : NONE);
        if (can) {
            p.dyed = farmer(p.holder);
            p.owner = ownerOf(p.coupon);
            stations.get(s).add(new Event("pour", pours.size(), today));
            pours.add(p);
        }
    }

    private void askOfStations() {
        int s = near(stations.size());
        boolean is = s >= 0 && s < stations.size();
        int dips = is ? levels.get(s).size() : 0;
        int k = near(dips);
        CHECK.due(b.in(s, k), k >= 0 && k + 1 < dips ? inOf(s, k) : NO_AMOUNT);
        int i = near(dips);
        int j = pick(3) == 0 ? near(dips) : i + 1 + pick(2);
        boolean can = i >= 0 && i < j && j < dips;
        int what = pick(2);
        CHECK.due(b.sums(s, i, j, what), can ? sumsOf(s, i, j, what) : NONE);
        for (int at = 0; at < 3; at++) {
            int v = can && i + at < dips ? Math.max(0, levels.get(s).get(i + at) + pick(9) - 4) : pick(300_002);
            CHECK.due(b.level(at, v), v <= 300_000);
            if (v <= 300_000) {
                row.put(at, v);
            }
        }
        CHECK.due(b.judged(s, i, j), can ? judgedBy(s, i, j) : NONE);
    }

    private void askOfPours() {
        int n = near(pours.size());
        boolean is = n >= 0 && n < pours.size();
        Pour p = is ? pours.get(n) : new Pour();
        int[] due = {p.station, p.holder, p.coupon, p.day, p.tenths, p.judged, p.dyed ? 1 : 0, NONE};
        int what = pick(8);
        CHECK.due(b.poured(n, what), is ? due[what] : NONE);
        int h = near(holders.size());
        Pour last = null;
        for (Pour each : pours) {
            last = each.holder == h ? each : last;
        }
        boolean isHolder = h >= 0 && h < holders.size();
        CHECK.due(b.found(h), !isHolder ? NONE : last != null && last.dyed && !farmer(h) ? 1 : 0);
    }

    private void goJourneys() {
        int n = near(journeys.size());
        boolean is = n >= 0 && n < journeys.size();
        switch (pick(3)) {
            case 0:
                askFor();
                break;
            case 1:
                int reason = pick(6);
                boolean can = is && reason < 5;
                if (can) {
                    journeys.get(n).reason = reason;
                    journeys.get(n).granted = grant(journeys.get(n), journeys.get(n).asked);
                }
                CHECK.due(b.appeal(n, reason), can ? journeys.get(n).granted : NONE);
                break;
            default:
                int what = pick(8);
                Journey j = is ? journeys.get(n) : new Journey();
                int[] due = {j.holder, j.miles, j.people, j.reason, j.day, j.way, j.granted, j.first};
                CHECK.due(b.journey(n, what), is ? due[what] : NONE);
                List<Integer> likes = is ? likesOf(n) : List.of();
                for (int k = 0; k <= likes.size() && k < 4; k++) {
                    CHECK.due(b.journey(n, 100 + k), k < likes.size() ? likes.get(k) : NONE);
                }
                break;
        }
    }

    private void askFor() {
        Journey j = new Journey();
        j.holder = near(holders.size());
        j.miles = 30 + pick(8) * pick(8);
        j.people = 1 + pick(2);
        j.reason = pick(3);
        j.day = today + pick(40) - 1;
        j.way = pick(2) == 0 ? 12 : 11 + pick(3);
        j.asked = today;
        boolean can = j.holder >= 0 && j.holder < holders.size() && j.day >= today && j.day < 720 && j.way != 11
                && journeys.size() < 60;
        CHECK.due(b.ask(j.holder, j.miles, j.people, j.reason, j.day, j.way), can ? journeys.size() : NONE);
        if (can) {
            j.granted = grant(j, today);
            j.first = j.granted;
            journeys.add(j);
        }
    }

    private void deal() {
        int way = pick(3);
        int month = Math.min(23, today / 30 + pick(3));
        int h = near(holders.size());
        int[] units = dealtBy(way, month);
        boolean is = h >= 0 && h < units.length;
        CHECK.due(b.other(way, month, h, 0), is ? units[h] : NONE);
        CHECK.due(b.other(way, month, h, 1), !is ? NONE : units[h] >= holders.get(h).need ? 1 : 0);
        int staying = 0;
        for (int k = 0; k < units.length; k++) {
            staying += units[k] >= holders.get(k).need ? 1 : 0;
        }
        CHECK.due(b.stays(way, month), staying);
        int n = 1 + pick(3);
        boolean basic = pick(2) == 0;
        CHECK.due(b.foretold(n, basic), today / 30 + n > 24 ? NO_AMOUNT : foretoldBy(n, basic));
    }

    // ---- wild numbers

    private static int wildOne(Random random) {
        int[] odd = {Integer.MIN_VALUE, Integer.MAX_VALUE, -1, -2, 100, 719, 720, 72_000, 99_999, 300_000};
        int kind = random.nextInt(10);
        return kind == 0 ? odd[random.nextInt(odd.length)] : kind == 1 ? random.nextInt() : random.nextInt(kind * 4);
    }

    private static void wild(Random random) {
        PetrolBoard b = new PetrolBoard();
        for (int call = 0; call < 3000; call++) {
            int[] n = new int[6];
            for (int k = 0; k < 6; k++) {
                n[k] = wildOne(random);
            }
            wildCall(b, random.nextInt(37), n, random);
            // What was answered is told by the promises; here it only must be answered.
            CHECK.due(b.count(13), NONE);
        }
    }

    private static void wildCall(PetrolBoard b, int which, int[] n, Random random) {
        switch (which) {
            case 0: b.day(b.count(0) + n[0] % 8); break;
            case 1: b.holder(n[0], n[1], n[2], n[3], n[4]); break;
            case 2: b.note(n[0], n[1], n[2]); break;
            case 3: b.undo(n[0]); break;
            case 4: b.classOf(n[0], n[1], n[2]); break;
            case 5: b.feed(random.nextInt(), n[1], n[2], random.nextInt(), n[4]); break;
            case 6: b.orders(n[0], n[1]); break;
            case 7: b.fault(); break;
            case 8: b.rule(n[0], n[1], n[2]); break;
            case 9: b.units(n[0], n[1], n[2]); break;
            case 10: b.issue(n[0], b.count(0) / 30 + n[1] % 3); break;
            case 11: b.lend(n[0] % 3 * 2400 + n[1], n[2]); break;
            case 12: b.owner(n[0]); break;
            case 13: b.station(); break;
            case 14: b.pour(n[0], n[1], n[2]); break;
            case 15: b.handIn(n[0]); break;
            case 16: b.poured(n[0], n[1]); break;
            case 17: b.found(n[0]); break;
            case 18: b.deliver(n[0], n[1]); break;
            case 19: b.dip(n[0], n[1]); break;
            case 20: b.in(n[0], n[1]); break;
            case 21: b.sums(n[0], n[1], n[2], n[3] % 2); break;
            case 22: b.level(n[0], n[1]); break;
            case 23: b.judged(n[0], n[1], n[2]); break;
            case 24: b.port(n[0]); break;
            case 25: b.want(n[0], n[1]); break;
            case 26: b.road(n[0], n[1], n[2]); break;
            case 27: b.flow(n[0], n[1] % 2); break;
            case 28: b.ask(n[0], n[1], n[2], n[3], b.count(0) + n[4], n[5]); break;
            case 29: b.appeal(n[0], n[1]); break;
            case 30: b.journey(n[0], n[1]); break;
            case 31: b.pool(b.count(0) + n[0], n[1], n[2]); break;
            case 32: b.other(n[0], n[1], n[2], n[3]); break;
            case 33: b.stays(n[0], n[1]); break;
            case 34: b.foretold(n[0], n[1] % 2 == 0); break;
            case 35: Check.tell(b, "units 3*size;lend 9;trip miles/(people+1);", n[0]); break;
            default: b.count(n[0]); break;
        }
    }
}
