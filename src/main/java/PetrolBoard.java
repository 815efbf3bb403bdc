import java.util.Arrays;

/** A petrol board, as ../shared/DOC.md tells it: one object is one board. */
public final class PetrolBoard {
    public static final int NONE = -1;

    private static final int DAYS = 720;
    private static final int MONTHS = 24;
    private static final int MONTH_DAYS = 30;
    private static final int CLASSES = 5;
    private static final int FARMER = 2;
    private static final int REASONS = 5;
    private static final int TOWNS = 10;
    private static final int MOST_HOLDERS = 30;
    private static final int MOST_NOTES = 200;
    private static final int MOST_BYTES = 500;
    private static final int MOST_ORDERS = 12;
    private static final int MOST_STATEMENTS = 24;
    private static final int MOST_OPEN = 9;
    private static final int MOST_UNITS = 99;
    private static final int BOOK_NUMBERS = 100;
    private static final int MOST_NUMBER = 99_999;
    // An object is used for 512 calls: no more coupons than that can be LENT.
    private static final int MOST_LENT = 512;
    private static final int MOST_POURS = 300;
    private static final int MOST_STATIONS = 10;
    private static final int MOST_DIPS = 30;
    private static final int MOST_DELIVERIES = 30;
    private static final int MOST_PORTS = 4;
    private static final int MOST_JOURNEYS = 60;
    private static final int MOST_POOLED = 12;
    private static final int LOAD_GALLONS = 100;
    private static final int FEED_BYTES = 20;
    private static final int NO_SUCH = -2;
    private static final int FULL = -3;
    private static final int CANNOT_BE = -3;
    private static final int NO_AMOUNT = -2_000_000_000;
    private static final int LEAST_AMOUNT = -1_999_999_999;
    private static final int ALL_LIKES = 100;

    private static final int WAY_ALIKE = 1;
    private static final int WAY_SOLD = 2;

    private static final int GOOD = 0;
    private static final int UNKNOWN_COUPON = 1;
    private static final int HANDED_AHEAD = 2;
    private static final int OUT_OF_TIME = 3;
    private static final int NOT_THE_HOLDERS = 4;

    // What rule() asks for, in the order of the words "worth" to "doubt".
    private static final int WORTH = 0;
    private static final int LAPSE = 1;
    private static final int LEND = 2;
    private static final int WASTE = 3;
    private static final int DOUBT = 4;
    private static final int WHICH_ORDERS = 5;
    private static final int[] USUAL = {10, 1, 5, 0, 20};

    // Tokens: a sign is its own byte, words and the rest stand above all bytes.
    private static final int WORD_UNITS = 300;
    private static final int WORD_TRIP = 301;
    private static final int WORD_STOP = 302;
    private static final int WORD_WORTH = 303;
    private static final int WORD_LAPSE = 304;
    private static final int WORD_LEND = 305;
    private static final int WORD_WASTE = 306;
    private static final int WORD_DOUBT = 307;
    private static final int WORD_IF = 308;
    private static final int WORD_OR = 309;
    private static final int WORD_AND = 310;
    private static final int WORD_NOT = 311;
    private static final int WORD_LEAST = 312;
    private static final int WORD_MOST = 313;
    private static final int WORD_CLASS = 314;
    private static final int WORD_SIZE = 315;
    private static final int WORD_TOWN = 316;
    private static final int WORD_MONTH = 317;
    private static final int WORD_MILES = 318;
    private static final int WORD_PEOPLE = 319;
    private static final int WORD_REASON = 320;
    private static final int TOKEN_NUMBER = 400;
    private static final int TOKEN_END = 401;
    private static final int TOKEN_BAD = 402;
    private static final int MOST_DIGITS = 6;

    // Code of an EX or a COND, operands first; from 0 on it is a number.
    private static final int CODE_ADD = -1;
    private static final int CODE_TAKE = -2;
    private static final int CODE_TIMES = -3;
    private static final int CODE_DIVIDE = -4;
    private static final int CODE_LEAST = -5;
    private static final int CODE_MOST = -6;
    private static final int CODE_BELOW = -7;
    private static final int CODE_ABOVE = -8;
    private static final int CODE_SAME = -9;
    private static final int CODE_AND = -10;
    private static final int CODE_OR = -11;
    private static final int CODE_NOT = -12;
    private static final int CODE_END = -13;
    private static final int CODE_NAME = -20;
    private static final int NAMES = 7;
    private static final int HELD = 1_000_000_000;
    // Nine open ones leave some thirty operands waiting.
    private static final int STACK = 64;

    private int today;
    private int faultPlace = NONE;
    private final Holders holders = new Holders();
    private final Reader reader = new Reader();
    private final OrderBook orderBook = new OrderBook();
    private final Coupons coupons = new Coupons();
    private final Pours pours = new Pours();
    private final Station[] stations = new Station[MOST_STATIONS];
    private int stationNumber;
    private final int[] row = new int[MOST_DIPS];
    private final Loads loads = new Loads();
    private final Journeys journeys = new Journeys();
    private final Deal deal = new Deal();

    public PetrolBoard() {
        // A place of the ROW that was never told holds no LEVEL.
        Arrays.fill(row, NONE);
    }

    public boolean day(int d) {
        if (d <= today || d >= DAYS) {
            return false;
        }
        today = d;
        return true;
    }

    public int holder(int size, int town, int seats, int bid, int need) {
        if (!within(size, 1, 9) || !within(town, 0, TOWNS - 1) || !within(seats, 1, 8)) {
            return NONE;
        }
        if (!within(bid, 0, 999) || !within(need, 0, 99)) {
            return NONE;
        }
        return holders.add(size, town, seats, bid, need);
    }

    public int note(int holder, int kind, int from) {
        if (!holders.has(holder) || !within(kind, 0, CLASSES - 1) || !isDay(from)) {
            return NONE;
        }
        return holders.addNote(holder, kind, from, today);
    }

    public boolean undo(int note) {
        return holders.cancelNote(note, today);
    }

    public int classOf(int holder, int day, int known) {
        if (!holders.has(holder) || !isDay(day) || !isDay(known)) {
            return NONE;
        }
        return holders.kindOn(holder, day, known);
    }

    public int feed(int a, int b, int c, int d, int e) {
        if (reader.taped + FEED_BYTES > MOST_BYTES) {
            return NONE;
        }
        reader.put(a);
        reader.put(b);
        reader.put(c);
        reader.put(d);
        reader.put(e);
        return reader.taped;
    }

    public int orders(int n, int month) {
        if (n < 0 || n > reader.taped || !isMonth(month)) {
            return NO_SUCH;
        }
        if (orderBook.number >= MOST_ORDERS) {
            return FULL;
        }
        faultPlace = reader.read(n);
        if (faultPlace != NONE) {
            return NONE;
        }
        return orderBook.add(new Orders(reader, month, today));
    }

    public int fault() {
        return faultPlace;
    }

    public int rule(int month, int known, int what) {
        if (!isMonth(month) || !isDay(known)) {
            return NONE;
        }
        if (what == WHICH_ORDERS) {
            return orderBook.inForce(month, known);
        }
        if (!within(what, WORTH, DOUBT)) {
            return NONE;
        }
        return orderBook.amount(what, month, known);
    }

    public int units(int holder, int month, int known) {
        if (!holders.has(holder) || !isMonth(month) || !isDay(known)) {
            return NONE;
        }
        return orderBook.unitsOf(holders, holder, month, known);
    }

    public int issue(int holder, int month) {
        int now = today / MONTH_DAYS;
        if (!holders.has(holder) || !isMonth(month) || month < now || month > now + 1) {
            return NONE;
        }
        if (coupons.isIssued(holder, month)) {
            return NONE;
        }
        return coupons.add(holder, month, orderBook.unitsOf(holders, holder, month, today));
    }

    public boolean lend(int coupon, int to) {
        if (!coupons.has(coupon) || !holders.has(to) || Coupons.holderOf(coupon) == to) {
            return false;
        }
        if (coupons.isLent(coupon) || pours.wasHandedIn(coupon)) {
            return false;
        }
        int most = orderBook.amount(LEND, Coupons.monthOf(coupon), today);
        if (coupons.lentOfBook(coupon) >= most) {
            return false;
        }
        return coupons.addLent(coupon, to);
    }

    public int owner(int coupon) {
        return coupons.ownerOf(coupon);
    }

    public int station() {
        if (stationNumber >= stations.length) {
            return NONE;
        }
        stations[stationNumber] = new Station();
        stationNumber++;
        return stationNumber - 1;
    }

    private Station stationAt(int station) {
        if (station < 0 || station >= stationNumber || station >= stations.length) {
            return null;
        }
        return stations[station];
    }

    private boolean hasStation(int station) {
        return station >= 0 && station < stationNumber;
    }

    public int pour(int station, int holder, int coupon) {
        if (!hasStation(station) || !holders.has(holder) || !within(coupon, 0, MOST_NUMBER)) {
            return NONE;
        }
        int p = pours.add(station, holder, coupon, today);
        if (pours.has(p)) {
            pours.tenths[p] = orderBook.amount(WORTH, today / MONTH_DAYS, today);
            pours.dyed[p] = isFarmerNow(holder) ? 1 : 0;
            pours.ownerThen[p] = coupons.ownerOf(coupon);
        }
        return p;
    }

    private boolean isFarmerNow(int holder) {
        return holders.kindOn(holder, today, today) == FARMER;
    }

    public int handIn(int station) {
        if (!hasStation(station)) {
            return NONE;
        }
        int good = 0;
        for (int p = 0; p < pours.number && p < MOST_POURS; p++) {
            if (pours.station[p] == station && pours.verdict[p] == NONE) {
                // Each verdict is written before the next: one of the same number behind it sees it.
                pours.verdict[p] = verdictOn(p);
                good += pours.verdict[p] == GOOD ? 1 : 0;
            }
        }
        return good;
    }

    private int verdictOn(int p) {
        if (!pours.has(p)) {
            return NONE;
        }
        int coupon = pours.coupon[p];
        if (!coupons.has(coupon)) {
            return UNKNOWN_COUPON;
        }
        if (pours.wasHandedIn(coupon)) {
            return HANDED_AHEAD;
        }
        int month = Coupons.monthOf(coupon);
        int used = pours.day[p] / MONTH_DAYS;
        if (used < month || used > month + orderBook.amount(LAPSE, month, pours.day[p])) {
            return OUT_OF_TIME;
        }
        return pours.ownerThen[p] == pours.holder[p] ? GOOD : NOT_THE_HOLDERS;
    }

    public int poured(int pour, int what) {
        return pours.tell(pour, what);
    }

    public int found(int holder) {
        if (!holders.has(holder)) {
            return NONE;
        }
        return pours.lastWasDyed(holder) && !isFarmerNow(holder) ? 1 : 0;
    }

    public int deliver(int station, int tenths) {
        Station s = stationAt(station);
        if (s == null || !within(tenths, 1, 100_000)) {
            return NONE;
        }
        return s.addDelivery(tenths);
    }

    public int dip(int station, int told) {
        Station s = stationAt(station);
        if (s == null || !within(told, 0, 200_000)) {
            return NONE;
        }
        return s.addDip(told, today, pours.number);
    }

    public int in(int station, int k) {
        Station s = stationAt(station);
        if (s == null || k < 0 || k >= s.dips - 1) {
            return NO_AMOUNT;
        }
        return inBehind(s, station, k);
    }

    private int inBehind(Station s, int station, int k) {
        if (k < 0 || k + 1 >= s.dips || k + 1 >= MOST_DIPS) {
            return 0;
        }
        int waste = orderBook.amount(WASTE, s.dipDay[k] / MONTH_DAYS, today);
        int given = pours.given(station, s.pouredThen[k], s.pouredThen[k + 1]);
        return s.deliveredThen[k + 1] - s.deliveredThen[k] - given
                - waste * (s.dipDay[k + 1] - s.dipDay[k]);
    }

    public long sums(int station, int i, int j, int what) {
        Station s = stationAt(station);
        if (s == null || !s.hasSpan(i, j) || !within(what, 0, 1)) {
            return NONE;
        }
        putBounds(s, station, i, j);
        return what == 0 ? s.leastBlack(i, j) : s.mostBlack(i, j);
    }

    /** What is KNOWN TODAY settles each IN and LEVEL: told anew for every call. */
    private void putBounds(Station s, int station, int i, int j) {
        for (int k = Math.max(i, 0); k <= j && k < MOST_DIPS; k++) {
            int doubt = orderBook.amount(DOUBT, s.dipDay[k] / MONTH_DAYS, today);
            s.low[k] = Math.max(0, s.told[k] - doubt);
            s.high[k] = s.told[k] + doubt;
            s.in[k] = k < j ? inBehind(s, station, k) : 0;
        }
    }

    public boolean level(int k, int v) {
        if (k < 0 || k >= row.length || !within(v, 0, 300_000)) {
            return false;
        }
        row[k] = v;
        return true;
    }

    public long judged(int station, int i, int j) {
        Station s = stationAt(station);
        if (s == null || !s.hasSpan(i, j)) {
            return NONE;
        }
        putBounds(s, station, i, j);
        return s.blackBy(row, i, j);
    }

    public int port(int loads) {
        if (!within(loads, 0, 50)) {
            return NONE;
        }
        return this.loads.addPort(loads);
    }

    public boolean want(int station, int loads) {
        if (!hasStation(station) || !within(loads, 0, 20)) {
            return false;
        }
        this.loads.putWant(station, loads);
        return true;
    }

    public boolean road(int port, int station, int miles) {
        if (!loads.hasPort(port) || !hasStation(station) || !within(miles, 0, 999)) {
            return false;
        }
        loads.putRoad(port, station, miles);
        return true;
    }

    public int flow(int shut, int what) {
        if (!within(what, 0, 1) || shut != NONE && !loads.hasPort(shut)) {
            return NONE;
        }
        loads.send(shut);
        return what == 0 ? loads.sentLoads : loads.sentMiles;
    }

    public int ask(int holder, int miles, int people, int reason, int day, int way) {
        if (!holders.has(holder) || !within(miles, 1, 500) || !within(people, 1, 8)) {
            return NONE;
        }
        if (!isReason(reason) || !within(day, today, DAYS - 1) || !isWay(way)) {
            return NONE;
        }
        int j = journeys.add(holder, miles, people, reason, day, way);
        if (journeys.has(j)) {
            journeys.asked[j] = today;
            journeys.granted[j] = orderBook.grant(holders, journeys, j);
            journeys.grantedFirst[j] = journeys.granted[j];
        }
        return j;
    }

    public int appeal(int journey, int reason) {
        if (!journeys.has(journey) || !isReason(reason)) {
            return NONE;
        }
        journeys.reason[journey] = reason;
        journeys.granted[journey] = orderBook.grant(holders, journeys, journey);
        return journeys.granted[journey];
    }

    public int journey(int journey, int what) {
        if (!journeys.has(journey)) {
            return NONE;
        }
        if (what >= ALL_LIKES) {
            return journeys.likeOf(holders, journey, what - ALL_LIKES, today);
        }
        return journeys.tell(journey, what);
    }

    public int pool(int day, int way, int what) {
        if (!isDay(day) || !isWay(way) || !within(what, 0, 3)) {
            return NONE;
        }
        if (!journeys.poolOf(holders, day, way)) {
            return NONE;
        }
        switch (what) {
            case 0: return journeys.poolCars;
            case 1: return journeys.poolCost;
            case 2: return journeys.poolSet;
            default: return journeys.poolPeople;
        }
    }

    public int other(int way, int month, int holder, int what) {
        if (!within(way, 0, WAY_SOLD) || !isMonth(month) || !holders.has(holder) || !within(what, 0, 1)) {
            return NONE;
        }
        dealOut(way, month);
        return what == 0 ? deal.unitsOf(holder) : remains(holder) ? 1 : 0;
    }

    public int stays(int way, int month) {
        if (!within(way, 0, WAY_SOLD) || !isMonth(month)) {
            return NONE;
        }
        dealOut(way, month);
        int staying = 0;
        for (int h = 0; h < holders.number; h++) {
            staying += remains(h) ? 1 : 0;
        }
        return staying;
    }

    private boolean remains(int holder) {
        return holders.has(holder) && deal.unitsOf(holder) >= holders.need[holder];
    }

    private void dealOut(int way, int month) {
        deal.clear();
        for (int h = 0; h < holders.number; h++) {
            deal.put(orderBook.unitsOf(holders, h, month, today));
        }
        if (way == WAY_ALIKE) {
            deal.alike();
        } else if (way == WAY_SOLD) {
            deal.sell(holders);
        }
    }

    public int foretold(int n, boolean basic) {
        int now = today / MONTH_DAYS;
        if (!within(n, 1, 12) || now + n > MONTHS) {
            return NO_AMOUNT;
        }
        long tenths = 0;
        for (int month = now; month < now + n; month++) {
            tenths += (long) orderBook.amount(WORTH, month, today) * unitsTogether(month, basic);
        }
        long left = (long) LOAD_GALLONS * loads.inPorts() - (tenths + 9) / 10;
        return (int) Math.max(LEAST_AMOUNT, left);
    }

    private int unitsTogether(int month, boolean basic) {
        int sum = 0;
        for (int h = 0; h < holders.number; h++) {
            if (basic || holders.kindOn(h, month * MONTH_DAYS, today) != 0) {
                sum += orderBook.unitsOf(holders, h, month, today);
            }
        }
        return sum;
    }

    public int count(int what) {
        switch (what) {
            case 0: return today;
            case 1: return holders.number;
            case 2: return holders.notes;
            case 3: return orderBook.number;
            case 4: return coupons.books;
            case 5: return stationNumber;
            case 6: return pours.number;
            case 7: return pours.judgedGood();
            case 8: return pours.judgedOtherwise();
            case 9: return coupons.lentNumber;
            case 10: return loads.ports;
            case 11: return journeys.number;
            case 12: return reader.taped;
            default: return NONE;
        }
    }

    private static boolean within(int value, int least, int most) {
        return value >= least && value <= most;
    }

    /** What holds of WORTH to DOUBT where no ORDERS tell it. */
    private static int usual(int what) {
        return what >= 0 && what < USUAL.length ? USUAL[what] : NONE;
    }

    private static boolean isDay(int day) {
        return within(day, 0, DAYS - 1);
    }

    private static boolean isMonth(int month) {
        return within(month, 0, MONTHS - 1);
    }

    private static boolean isReason(int reason) {
        return within(reason, 0, REASONS - 1);
    }

    private static boolean isWay(int way) {
        return within(way, 0, TOWNS * TOWNS - 1) && way / TOWNS != way % TOWNS;
    }

    /** The HOLDERS, a car each, and the NOTES: from when a CLASS is, and when that was KNOWN. */
    private static final class Holders {
        final int[] size = new int[MOST_HOLDERS];
        final int[] town = new int[MOST_HOLDERS];
        final int[] seats = new int[MOST_HOLDERS];
        final int[] bid = new int[MOST_HOLDERS];
        final int[] need = new int[MOST_HOLDERS];
        int number;
        private final int[] noteOf = new int[MOST_NOTES];
        private final int[] kind = new int[MOST_NOTES];
        private final int[] from = new int[MOST_NOTES];
        private final int[] toldOn = new int[MOST_NOTES];
        private final int[] undoneOn = new int[MOST_NOTES];
        int notes;

        boolean has(int holder) {
            return holder >= 0 && holder < number && holder < MOST_HOLDERS;
        }

        int add(int size, int town, int seats, int bid, int need) {
            if (number >= MOST_HOLDERS) {
                return NONE;
            }
            this.size[number] = size;
            this.town[number] = town;
            this.seats[number] = seats;
            this.bid[number] = bid;
            this.need[number] = need;
            number++;
            return number - 1;
        }

        int addNote(int holder, int kind, int from, int today) {
            if (notes >= MOST_NOTES) {
                return NONE;
            }
            noteOf[notes] = holder;
            this.kind[notes] = kind;
            this.from[notes] = from;
            toldOn[notes] = today;
            // Not UNDONE yet: behind the last DAY.
            undoneOn[notes] = DAYS;
            notes++;
            return notes - 1;
        }

        boolean cancelNote(int note, int today) {
            if (note < 0 || note >= notes || note >= MOST_NOTES || undoneOn[note] < DAYS) {
                return false;
            }
            undoneOn[note] = today;
            return true;
        }

        int kindOn(int holder, int day, int known) {
            int latest = NONE;
            int answer = 0;
            for (int k = 0; k < notes && k < MOST_NOTES; k++) {
                boolean counts = noteOf[k] == holder && from[k] <= day
                        && toldOn[k] <= known && known < undoneOn[k];
                if (counts && from[k] >= latest) {
                    latest = from[k];
                    answer = kind[k];
                }
            }
            return answer;
        }
    }

    /** The tape, and the reading of ORDERS on it: bytes into tokens, tokens into code. */
    private static final class Reader {
        private final int[] text = new int[MOST_BYTES];
        int taped;
        private final int[] tokens = new int[MOST_BYTES + 1];
        private final int[] values = new int[MOST_BYTES + 1];
        private final int[] places = new int[MOST_BYTES + 1];
        private int scanned;
        private int at;
        private int token;
        final int[] code = new int[MOST_BYTES];
        int used;
        final int[] head = new int[MOST_STATEMENTS];
        final int[] first = new int[MOST_STATEMENTS];
        final int[] second = new int[MOST_STATEMENTS];
        int statements;

        void put(int four) {
            for (int shift = 24; shift >= 0 && taped < text.length; shift -= 8) {
                text[taped] = (four >>> shift) & 255;
                taped++;
            }
        }

        /** Reads the first n bytes and empties the tape: the FAULT's place, or NONE. */
        int read(int n) {
            scan(Math.min(n, taped));
            taped = 0;
            used = 0;
            statements = 0;
            at = -1;
            step();
            for (int k = 0; k < MOST_STATEMENTS && token != TOKEN_END; k++) {
                if (!statement(k) || !taken(';')) {
                    return place();
                }
                statements = k + 1;
            }
            return token == TOKEN_END ? NONE : place();
        }

        private int place() {
            return at >= 0 && at < scanned && at < places.length ? places[at] : 0;
        }

        private boolean statement(int k) {
            if (k < 0 || k >= MOST_STATEMENTS) {
                return false;
            }
            head[k] = token;
            first[k] = used;
            second[k] = NONE;
            if (token == WORD_UNITS || token == WORD_TRIP) {
                step();
                if (!sum(0)) {
                    return false;
                }
                emit(CODE_END);
                return token != WORD_IF || condition(k);
            }
            if (token == WORD_STOP) {
                return condition(k);
            }
            return token >= WORD_WORTH && token <= WORD_DOUBT && amountOf(k);
        }

        /** Behind "if" or "stop". */
        private boolean condition(int k) {
            if (k < 0 || k >= MOST_STATEMENTS) {
                return false;
            }
            step();
            second[k] = used;
            if (!either(0)) {
                return false;
            }
            emit(CODE_END);
            return true;
        }

        private boolean amountOf(int k) {
            if (k < 0 || k >= MOST_STATEMENTS) {
                return false;
            }
            step();
            int least = head[k] == WORD_WORTH ? 1 : 0;
            if (token != TOKEN_NUMBER || numberHere() < least) {
                return false;
            }
            first[k] = numberHere();
            step();
            return true;
        }

        private boolean either(int depth) {
            if (!all(depth)) {
                return false;
            }
            for (int k = 0; k < MOST_BYTES && token == WORD_OR; k++) {
                step();
                if (!all(depth)) {
                    return false;
                }
                emit(CODE_OR);
            }
            return true;
        }

        private boolean all(int depth) {
            if (!one(depth)) {
                return false;
            }
            for (int k = 0; k < MOST_BYTES && token == WORD_AND; k++) {
                step();
                if (!one(depth)) {
                    return false;
                }
                emit(CODE_AND);
            }
            return true;
        }

        private boolean one(int depth) {
            if (token == WORD_NOT || token == '{') {
                return opened(depth);
            }
            if (!sum(depth)) {
                return false;
            }
            int sign = token;
            if (sign != '<' && sign != '>' && sign != '=') {
                return false;
            }
            step();
            if (!sum(depth)) {
                return false;
            }
            emit(sign == '<' ? CODE_BELOW : sign == '>' ? CODE_ABOVE : CODE_SAME);
            return true;
        }

        /** "not" or "{". */
        private boolean opened(int depth) {
            if (depth >= MOST_OPEN) {
                return false;
            }
            boolean negated = token == WORD_NOT;
            step();
            if (!negated) {
                return either(depth + 1) && taken('}');
            }
            if (!one(depth + 1)) {
                return false;
            }
            emit(CODE_NOT);
            return true;
        }

        private boolean sum(int depth) {
            if (!product(depth)) {
                return false;
            }
            for (int k = 0; k < MOST_BYTES && (token == '+' || token == '-'); k++) {
                int sign = token;
                step();
                if (!product(depth)) {
                    return false;
                }
                emit(sign == '+' ? CODE_ADD : CODE_TAKE);
            }
            return true;
        }

        private boolean product(int depth) {
            if (!atom(depth)) {
                return false;
            }
            for (int k = 0; k < MOST_BYTES && (token == '*' || token == '/'); k++) {
                int sign = token;
                step();
                if (!atom(depth)) {
                    return false;
                }
                emit(sign == '*' ? CODE_TIMES : CODE_DIVIDE);
            }
            return true;
        }

        private boolean atom(int depth) {
            if (token == TOKEN_NUMBER || token >= WORD_CLASS && token <= WORD_REASON) {
                emit(token == TOKEN_NUMBER ? numberHere() : CODE_NAME - (token - WORD_CLASS));
                step();
                return true;
            }
            int opener = token;
            if (opener != '(' && opener != WORD_LEAST && opener != WORD_MOST || depth >= MOST_OPEN) {
                return false;
            }
            step();
            if (opener == '(') {
                return sum(depth + 1) && taken(')');
            }
            // "least" and its "(" are one open thing: "least" is named for both.
            if (!taken('(') || !sum(depth + 1) || !taken(',') || !sum(depth + 1) || !taken(')')) {
                return false;
            }
            emit(opener == WORD_LEAST ? CODE_LEAST : CODE_MOST);
            return true;
        }

        private boolean taken(int sign) {
            if (token != sign) {
                return false;
            }
            step();
            return true;
        }

        private void emit(int what) {
            // Never more than one for a token, so never more than bytes.
            if (used < code.length) {
                code[used] = what;
                used++;
            }
        }

        private int numberHere() {
            return at >= 0 && at < values.length ? values[at] : 0;
        }

        private void step() {
            at++;
            token = at < scanned && at < tokens.length ? tokens[at] : TOKEN_END;
        }

        /** All tokens of the first n bytes, and the end behind them. */
        private void scan(int n) {
            int length = Math.min(n, text.length);
            scanned = 0;
            int to;
            for (int from = 0; from < length; from = Math.max(to, from + 1)) {
                to = endOf(from, length);
                if (!isBlank(text[from])) {
                    addToken(tokenOf(from, to), from, numberOf(from, to));
                }
            }
            addToken(TOKEN_END, length, 0);
        }

        private void addToken(int what, int place, int value) {
            // Never more than one for a byte, and the end.
            if (scanned < tokens.length) {
                tokens[scanned] = what;
                places[scanned] = place;
                values[scanned] = value;
                scanned++;
            }
        }

        /** Behind the token: letters and digits go on, a sign doesn't. */
        private int endOf(int from, int length) {
            int to = from + 1;
            if (from < 0 || from >= text.length) {
                return to;
            }
            boolean word = isLetter(text[from]);
            if (!word && !isDigit(text[from])) {
                return to;
            }
            while (to < length && to < text.length && (word ? isLetter(text[to]) : isDigit(text[to]))) {
                to++;
            }
            return to;
        }

        private int tokenOf(int from, int to) {
            if (from < 0 || from >= text.length) {
                return TOKEN_BAD;
            }
            int b = text[from];
            if (isLetter(b)) {
                return wordOf(from, to);
            }
            if (isDigit(b)) {
                return to - from <= MOST_DIGITS ? TOKEN_NUMBER : TOKEN_BAD;
            }
            return isSign(b) ? b : TOKEN_BAD;
        }

        private int numberOf(int from, int to) {
            int sum = 0;
            for (int k = Math.max(from, 0); k < to && k < text.length && k < from + MOST_DIGITS; k++) {
                sum = isDigit(text[k]) ? sum * 10 + text[k] - '0' : 0;
            }
            return sum;
        }

        private int wordOf(int from, int to) {
            for (int word = WORD_UNITS; word <= WORD_REASON; word++) {
                if (isWord(wordText(word), from, to)) {
                    return word;
                }
            }
            return TOKEN_BAD;
        }

        private boolean isWord(String word, int from, int to) {
            if (from < 0 || to > text.length || word.length() != to - from) {
                return false;
            }
            for (int k = 0; k < word.length() && from + k < text.length; k++) {
                if (word.charAt(k) != text[from + k]) {
                    return false;
                }
            }
            return true;
        }

        private static boolean isBlank(int b) {
            return b == ' ' || b == '\n';
        }

        private static boolean isLetter(int b) {
            return b >= 'a' && b <= 'z';
        }

        private static boolean isDigit(int b) {
            return b >= '0' && b <= '9';
        }

        private static boolean isSign(int b) {
            switch (b) {
                case '+': case '-': case '*': case '/':
                case '(': case ')': case '{': case '}':
                case ',': case ';': case '<': case '>': case '=':
                    return true;
                default:
                    return false;
            }
        }

        private static String wordText(int word) {
            switch (word) {
                case WORD_UNITS: return "units";
                case WORD_TRIP: return "trip";
                case WORD_STOP: return "stop";
                case WORD_WORTH: return "worth";
                case WORD_LAPSE: return "lapse";
                case WORD_LEND: return "lend";
                case WORD_WASTE: return "waste";
                case WORD_DOUBT: return "doubt";
                case WORD_IF: return "if";
                case WORD_OR: return "or";
                case WORD_AND: return "and";
                case WORD_NOT: return "not";
                case WORD_LEAST: return "least";
                case WORD_MOST: return "most";
                case WORD_CLASS: return "class";
                case WORD_SIZE: return "size";
                case WORD_TOWN: return "town";
                case WORD_MONTH: return "month";
                case WORD_MILES: return "miles";
                case WORD_PEOPLE: return "people";
                default: return "reason";
            }
        }
    }

    /** ORDERS that were told: statements with the code of each. */
    private static final class Orders {
        final int month;
        final int toldOn;
        private final int[] head;
        private final int[] first;
        private final int[] second;
        private final int[] code;

        Orders(Reader reader, int month, int today) {
            this.month = month;
            this.toldOn = today;
            int number = within(reader.statements, 0, MOST_STATEMENTS) ? reader.statements : 0;
            int used = within(reader.used, 0, MOST_BYTES) ? reader.used : 0;
            head = Arrays.copyOf(reader.head, number);
            first = Arrays.copyOf(reader.first, number);
            second = Arrays.copyOf(reader.second, number);
            code = Arrays.copyOf(reader.code, used);
        }

        /** The last of "worth" to "doubt", or what is usual. */
        int amount(int what) {
            for (int k = first.length - 1; k >= 0; k--) {
                if (k < head.length && head[k] == WORD_WORTH + what) {
                    return first[k];
                }
            }
            return usual(what);
        }

        boolean stops(Machine machine) {
            for (int k = 0; k < head.length; k++) {
                if (head[k] == WORD_STOP && holds(k, machine)) {
                    return true;
                }
            }
            return false;
        }

        /** What the first "units" or "trip" tells whose COND holds. */
        int dealt(int word, Machine machine) {
            for (int k = 0; k < head.length; k++) {
                if (head[k] == word && k < first.length && holds(k, machine)) {
                    int told = machine.result(code, first[k]);
                    return Math.max(0, Math.min(MOST_UNITS, told));
                }
            }
            return 0;
        }

        private boolean holds(int k, Machine machine) {
            if (k < 0 || k >= second.length || second[k] == NONE) {
                return true;
            }
            return machine.result(code, second[k]) != 0;
        }
    }

    /** Reckons code by the NAMES' values. */
    private static final class Machine {
        final int[] names = new int[NAMES];
        private final int[] stack = new int[STACK];

        int result(int[] code, int start) {
            int top = 0;
            for (int at = Math.max(start, 0); at < code.length && code[at] != CODE_END; at++) {
                int what = code[at];
                if (what >= 0 || what <= CODE_NAME) {
                    if (top >= stack.length) {
                        return 0;
                    }
                    stack[top] = what >= 0 ? what : nameValue(CODE_NAME - what);
                    top++;
                } else if (what == CODE_NOT) {
                    if (top < 1) {
                        return 0;
                    }
                    stack[top - 1] = 1 - stack[top - 1];
                } else {
                    if (top < 2) {
                        return 0;
                    }
                    top--;
                    stack[top - 1] = joined(what, stack[top - 1], stack[top]);
                }
            }
            return top == 1 ? stack[0] : 0;
        }

        private int nameValue(int name) {
            return name >= 0 && name < names.length ? names[name] : 0;
        }

        private static int joined(int what, int a, int b) {
            long value;
            switch (what) {
                case CODE_ADD: value = (long) a + b; break;
                case CODE_TAKE: value = (long) a - b; break;
                case CODE_TIMES: value = (long) a * b; break;
                case CODE_DIVIDE: value = b == 0 ? 0 : a / b; break;
                case CODE_LEAST: value = a < b ? a : b; break;
                case CODE_MOST: value = a > b ? a : b; break;
                case CODE_BELOW: value = a < b ? 1 : 0; break;
                case CODE_ABOVE: value = a > b ? 1 : 0; break;
                case CODE_SAME: value = a == b ? 1 : 0; break;
                case CODE_AND: value = a & b; break;
                default: value = a | b; break;
            }
            return (int) Math.max(-HELD, Math.min(HELD, value));
        }
    }

    /** All ORDERS told, and what they give to HOLDERS. */
    private static final class OrderBook {
        private final Orders[] told = new Orders[MOST_ORDERS];
        private final Machine machine = new Machine();
        int number;

        int add(Orders orders) {
            if (number >= told.length) {
                return NONE;
            }
            told[number] = orders;
            number++;
            return number - 1;
        }

        int inForce(int month, int known) {
            int best = NONE;
            int latest = NONE;
            for (int k = 0; k < number && k < told.length; k++) {
                Orders orders = told[k];
                boolean counts = orders != null && orders.toldOn <= known && orders.month <= month;
                if (counts && orders.month >= latest) {
                    latest = orders.month;
                    best = k;
                }
            }
            return best;
        }

        private Orders ordersOf(int month, int known) {
            int k = inForce(month, known);
            return k >= 0 && k < told.length ? told[k] : null;
        }

        int amount(int what, int month, int known) {
            Orders orders = ordersOf(month, known);
            return orders == null ? usual(what) : orders.amount(what);
        }

        int unitsOf(Holders holders, int holder, int month, int known) {
            Orders orders = ordersOf(month, known);
            if (orders == null || !holders.has(holder)) {
                return 0;
            }
            putHolder(holders, holder, month * MONTH_DAYS, known);
            putJourney(0, 0, 0);
            return orders.stops(machine) ? 0 : orders.dealt(WORD_UNITS, machine);
        }

        /** By what was KNOWN on the DAY the JOURNEY was asked: TODAY, if it is asked now. */
        int grant(Holders holders, Journeys journeys, int j) {
            if (!journeys.has(j)) {
                return 0;
            }
            int known = journeys.asked[j];
            Orders orders = ordersOf(journeys.day[j] / MONTH_DAYS, known);
            if (orders == null || !holders.has(journeys.holder[j])) {
                return 0;
            }
            putHolder(holders, journeys.holder[j], journeys.day[j], known);
            putJourney(journeys.miles[j], journeys.people[j], journeys.reason[j]);
            return orders.dealt(WORD_TRIP, machine);
        }

        private void putHolder(Holders holders, int holder, int day, int known) {
            if (holders.has(holder)) {
                machine.names[0] = holders.kindOn(holder, day, known);
                machine.names[1] = holders.size[holder];
                machine.names[2] = holders.town[holder];
                machine.names[3] = day / MONTH_DAYS;
            }
        }

        private void putJourney(int miles, int people, int reason) {
            machine.names[4] = miles;
            machine.names[5] = people;
            machine.names[6] = reason;
        }
    }

    /** The BOOKS issued and the coupons LENT out of them. */
    private static final class Coupons {
        private final int[] issued = new int[MOST_HOLDERS * MONTHS];
        private final int[] lent = new int[MOST_LENT];
        private final int[] lentTo = new int[MOST_LENT];
        int books;
        int lentNumber;

        Coupons() {
            Arrays.fill(issued, NONE);
        }

        static int holderOf(int coupon) {
            return coupon / BOOK_NUMBERS / MONTHS;
        }

        static int monthOf(int coupon) {
            return coupon / BOOK_NUMBERS % MONTHS;
        }

        boolean isIssued(int holder, int month) {
            int book = MONTHS * holder + month;
            return book >= 0 && book < issued.length && issued[book] != NONE;
        }

        int add(int holder, int month, int number) {
            int book = MONTHS * holder + month;
            if (book < 0 || book >= issued.length) {
                return NONE;
            }
            issued[book] = number;
            books++;
            return number;
        }

        boolean has(int coupon) {
            int book = coupon / BOOK_NUMBERS;
            return coupon >= 0 && book < issued.length && coupon % BOOK_NUMBERS < issued[book];
        }

        private int lentAs(int coupon) {
            for (int k = 0; k < lentNumber && k < MOST_LENT; k++) {
                if (lent[k] == coupon) {
                    return k;
                }
            }
            return NONE;
        }

        boolean isLent(int coupon) {
            return lentAs(coupon) != NONE;
        }

        int lentOfBook(int coupon) {
            int sum = 0;
            for (int k = 0; k < lentNumber && k < MOST_LENT; k++) {
                sum += lent[k] / BOOK_NUMBERS == coupon / BOOK_NUMBERS ? 1 : 0;
            }
            return sum;
        }

        boolean addLent(int coupon, int to) {
            if (lentNumber >= MOST_LENT) {
                return false;
            }
            lent[lentNumber] = coupon;
            lentTo[lentNumber] = to;
            lentNumber++;
            return true;
        }

        int ownerOf(int coupon) {
            if (!has(coupon)) {
                return NONE;
            }
            int k = lentAs(coupon);
            return k >= 0 && k < MOST_LENT ? lentTo[k] : holderOf(coupon);
        }
    }

    /** What was POURED, with all that judging it later needs. */
    private static final class Pours {
        final int[] station = new int[MOST_POURS];
        final int[] holder = new int[MOST_POURS];
        final int[] coupon = new int[MOST_POURS];
        final int[] day = new int[MOST_POURS];
        final int[] tenths = new int[MOST_POURS];
        final int[] verdict = new int[MOST_POURS];
        final int[] dyed = new int[MOST_POURS];
        // A coupon may be LENT behind the POUR, so whose it was is kept.
        final int[] ownerThen = new int[MOST_POURS];
        int number;

        boolean has(int pour) {
            return pour >= 0 && pour < number && pour < MOST_POURS;
        }

        int add(int station, int holder, int coupon, int today) {
            if (number >= MOST_POURS) {
                return NONE;
            }
            this.station[number] = station;
            this.holder[number] = holder;
            this.coupon[number] = coupon;
            day[number] = today;
            verdict[number] = NONE;
            number++;
            return number - 1;
        }

        boolean wasHandedIn(int coupon) {
            for (int p = 0; p < number && p < MOST_POURS; p++) {
                if (this.coupon[p] == coupon && verdict[p] != NONE) {
                    return true;
                }
            }
            return false;
        }

        int tell(int pour, int what) {
            if (!has(pour)) {
                return NONE;
            }
            switch (what) {
                case 0: return station[pour];
                case 1: return holder[pour];
                case 2: return coupon[pour];
                case 3: return day[pour];
                case 4: return tenths[pour];
                case 5: return verdict[pour];
                case 6: return dyed[pour];
                default: return NONE;
            }
        }

        boolean lastWasDyed(int holder) {
            for (int p = Math.min(number, MOST_POURS) - 1; p >= 0; p--) {
                if (this.holder[p] == holder) {
                    return dyed[p] == 1;
                }
            }
            return false;
        }

        /** Tenths that a STATION gave for coupons, from one POUR on to another. */
        int given(int station, int from, int to) {
            int sum = 0;
            for (int p = Math.max(from, 0); p < to && p < MOST_POURS; p++) {
                if (this.station[p] == station && counts(verdict[p])) {
                    sum += tenths[p];
                }
            }
            return sum;
        }

        private static boolean counts(int verdict) {
            return verdict != UNKNOWN_COUPON && verdict != HANDED_AHEAD && verdict != NOT_THE_HOLDERS;
        }

        int judgedGood() {
            int sum = 0;
            for (int p = 0; p < number && p < MOST_POURS; p++) {
                sum += verdict[p] == GOOD ? 1 : 0;
            }
            return sum;
        }

        int judgedOtherwise() {
            int sum = 0;
            for (int p = 0; p < number && p < MOST_POURS; p++) {
                sum += verdict[p] > GOOD ? 1 : 0;
            }
            return sum;
        }
    }

    /** A STATION: its DIPS, each with what had been DELIVERED and POURED by then. */
    private static final class Station {
        final int[] told = new int[MOST_DIPS];
        final int[] dipDay = new int[MOST_DIPS];
        final int[] deliveredThen = new int[MOST_DIPS];
        final int[] pouredThen = new int[MOST_DIPS];
        int dips;
        private int deliveries;
        private int delivered;
        final int[] low = new int[MOST_DIPS];
        final int[] high = new int[MOST_DIPS];
        final int[] in = new int[MOST_DIPS];

        int addDelivery(int tenths) {
            if (deliveries >= MOST_DELIVERIES) {
                return NONE;
            }
            deliveries++;
            delivered += tenths;
            return delivered;
        }

        int addDip(int told, int today, int pouredNow) {
            if (dips >= MOST_DIPS) {
                return NONE;
            }
            this.told[dips] = told;
            dipDay[dips] = today;
            deliveredThen[dips] = delivered;
            pouredThen[dips] = pouredNow;
            dips++;
            return dips - 1;
        }

        boolean hasSpan(int i, int j) {
            return i >= 0 && i < j && j < dips && j < MOST_DIPS;
        }

        /** The lowest first LEVEL from which LEVELS can go on to DIP j: a LEVEL rises by IN at most. */
        private long lowestFirst(int i, int j) {
            if (!hasSpan(i, j)) {
                return 0;
            }
            long lowest = low[j];
            for (int k = j - 1; k >= i && k >= 0; k--) {
                lowest = Math.max(low[k], lowest - in[k]);
                if (lowest > high[k]) {
                    return NONE;
                }
            }
            return lowest;
        }

        private long inTogether(int i, int j) {
            long sum = 0;
            for (int k = Math.max(i, 0); k < j && k < MOST_DIPS; k++) {
                sum += in[k];
            }
            return sum;
        }

        /** All BLACK together is all IN, the first LEVEL, less the last: the highest first, the lowest last. */
        long mostBlack(int i, int j) {
            if (!hasSpan(i, j)) {
                return NONE;
            }
            if (lowestFirst(i, j) == NONE) {
                return CANNOT_BE;
            }
            return inTogether(i, j) + high[i] - low[j];
        }

        /** From the lowest first LEVEL as high as it goes: a higher start lifts the end by no more than itself. */
        long leastBlack(int i, int j) {
            if (!hasSpan(i, j)) {
                return NONE;
            }
            long first = lowestFirst(i, j);
            if (first == NONE) {
                return CANNOT_BE;
            }
            long highest = first;
            for (int k = i + 1; k <= j && k < MOST_DIPS; k++) {
                highest = Math.min(high[k], highest + in[k - 1]);
            }
            return inTogether(i, j) + first - highest;
        }

        long blackBy(int[] row, int i, int j) {
            if (!hasSpan(i, j) || j - i >= row.length) {
                return NONE;
            }
            for (int k = i; k <= j && k < MOST_DIPS; k++) {
                int level = row[k - i];
                if (level == NONE || level < low[k] || level > high[k]) {
                    return NONE;
                }
                if (k > i && (long) in[k - 1] + row[k - i - 1] < level) {
                    return NONE;
                }
            }
            return inTogether(i, j) + row[0] - row[j - i];
        }
    }

    /** PORTS, wants and ROADS; FLOW goes by the cheapest way that is left, again and again. */
    private static final class Loads {
        private static final int FAR = 1_000_000;
        private static final int NODES = MOST_PORTS + MOST_STATIONS;
        private static final int MOST_SENDINGS = 1_000;
        private final int[] inPort = new int[MOST_PORTS];
        private final int[] wanted = new int[MOST_STATIONS];
        private final int[][] miles = new int[MOST_PORTS][MOST_STATIONS];
        private final int[][] sent = new int[MOST_PORTS][MOST_STATIONS];
        private final int[] left = new int[MOST_PORTS];
        private final int[] lacking = new int[MOST_STATIONS];
        private final int[] toPort = new int[MOST_PORTS];
        private final int[] toStation = new int[MOST_STATIONS];
        private final int[] byPort = new int[MOST_STATIONS];
        private final int[] byStation = new int[MOST_PORTS];
        int ports;
        int sentLoads;
        int sentMiles;

        boolean hasPort(int port) {
            return port >= 0 && port < ports && port < MOST_PORTS;
        }

        int addPort(int loads) {
            if (ports >= MOST_PORTS) {
                return NONE;
            }
            inPort[ports] = loads;
            ports++;
            return ports - 1;
        }

        void putWant(int station, int loads) {
            if (station >= 0 && station < MOST_STATIONS) {
                wanted[station] = loads;
            }
        }

        void putRoad(int port, int station, int road) {
            if (hasPort(port) && station >= 0 && station < MOST_STATIONS) {
                miles[port][station] = road;
            }
        }

        int inPorts() {
            int sum = 0;
            for (int p = 0; p < ports && p < MOST_PORTS; p++) {
                sum += inPort[p];
            }
            return sum;
        }

        void send(int shut) {
            sentLoads = 0;
            sentMiles = 0;
            for (int p = 0; p < MOST_PORTS; p++) {
                left[p] = p == shut ? 0 : inPort[p];
                Arrays.fill(sent[p], 0);
            }
            for (int s = 0; s < MOST_STATIONS; s++) {
                lacking[s] = wanted[s];
            }
            int end = cheapestEnd();
            for (int k = 0; k < MOST_SENDINGS && end != NONE; k++) {
                sendTo(end);
                end = cheapestEnd();
            }
        }

        /** The lacking STATION to which the way from a PORT with loads left is the shortest. */
        private int cheapestEnd() {
            for (int p = 0; p < MOST_PORTS; p++) {
                toPort[p] = left[p] > 0 ? 0 : FAR;
                byStation[p] = NONE;
            }
            Arrays.fill(toStation, FAR);
            Arrays.fill(byPort, NONE);
            boolean shorter = true;
            for (int round = 0; round <= NODES && shorter; round++) {
                shorter = shorten();
            }
            int best = NONE;
            for (int s = 0; s < MOST_STATIONS; s++) {
                boolean reached = lacking[s] > 0 && toStation[s] < FAR;
                if (reached && (best == NONE || toStation[s] < toStation[best])) {
                    best = s;
                }
            }
            return best;
        }

        /** A load may be sent on a ROAD, or one that was sent be taken back. */
        private boolean shorten() {
            boolean shorter = false;
            for (int p = 0; p < MOST_PORTS; p++) {
                for (int s = 0; s < MOST_STATIONS; s++) {
                    int road = miles[p][s];
                    if (road > 0 && toPort[p] < FAR && toPort[p] + road < toStation[s]) {
                        toStation[s] = toPort[p] + road;
                        byPort[s] = p;
                        shorter = true;
                    }
                    if (sent[p][s] > 0 && toStation[s] < FAR && toStation[s] - road < toPort[p]) {
                        toPort[p] = toStation[s] - road;
                        byStation[p] = s;
                        shorter = true;
                    }
                }
            }
            return shorter;
        }

        private void sendTo(int end) {
            if (end < 0 || end >= MOST_STATIONS) {
                return;
            }
            int load = loadTo(end);
            lacking[end] -= load;
            int s = end;
            for (int k = 0; k < NODES && isStation(s) && isPort(byPort[s]); k++) {
                int p = byPort[s];
                sent[p][s] += load;
                sentMiles += load * miles[p][s];
                s = byStation[p];
                if (isStation(s)) {
                    sent[p][s] -= load;
                    sentMiles -= load * miles[p][s];
                } else {
                    left[p] -= load;
                }
            }
            sentLoads += load;
        }

        /** As much as lacks at the end, is left at the beginning, and can be taken back between. */
        private int loadTo(int end) {
            if (!isStation(end)) {
                return 0;
            }
            int load = lacking[end];
            int s = end;
            for (int k = 0; k < NODES && isStation(s) && isPort(byPort[s]); k++) {
                int p = byPort[s];
                s = byStation[p];
                load = Math.min(load, isStation(s) ? sent[p][s] : left[p]);
            }
            return load;
        }

        private static boolean isPort(int port) {
            return port >= 0 && port < MOST_PORTS;
        }

        private static boolean isStation(int station) {
            return station >= 0 && station < MOST_STATIONS;
        }
    }

    /** JOURNEYS asked for, those LIKE them, and their POOLS. */
    private static final class Journeys {
        final int[] holder = new int[MOST_JOURNEYS];
        final int[] miles = new int[MOST_JOURNEYS];
        final int[] people = new int[MOST_JOURNEYS];
        final int[] reason = new int[MOST_JOURNEYS];
        final int[] day = new int[MOST_JOURNEYS];
        final int[] way = new int[MOST_JOURNEYS];
        final int[] asked = new int[MOST_JOURNEYS];
        final int[] granted = new int[MOST_JOURNEYS];
        final int[] grantedFirst = new int[MOST_JOURNEYS];
        int number;
        private final int[] pooledSeats = new int[MOST_POOLED];
        private final int[] pooledCost = new int[MOST_POOLED];
        private int pooled;
        int poolPeople;
        int poolCars;
        int poolCost;
        int poolSet;

        boolean has(int journey) {
            return journey >= 0 && journey < number && journey < MOST_JOURNEYS;
        }

        int add(int holder, int miles, int people, int reason, int day, int way) {
            if (number >= MOST_JOURNEYS) {
                return NONE;
            }
            this.holder[number] = holder;
            this.miles[number] = miles;
            this.people[number] = people;
            this.reason[number] = reason;
            this.day[number] = day;
            this.way[number] = way;
            number++;
            return number - 1;
        }

        int tell(int journey, int what) {
            if (!has(journey)) {
                return NONE;
            }
            switch (what) {
                case 0: return holder[journey];
                case 1: return miles[journey];
                case 2: return people[journey];
                case 3: return reason[journey];
                case 4: return day[journey];
                case 5: return way[journey];
                case 6: return granted[journey];
                case 7: return grantedFirst[journey];
                default: return NONE;
            }
        }

        int likeOf(Holders holders, int own, int k, int today) {
            int seen = 0;
            for (int j = 0; j < number && j < MOST_JOURNEYS; j++) {
                if (isLike(holders, own, j, today)) {
                    if (seen == k) {
                        return j;
                    }
                    seen++;
                }
            }
            return NONE;
        }

        private boolean isLike(Holders holders, int own, int j, int today) {
            if (!has(own) || !has(j) || own == j || granted[own] == granted[j]) {
                return false;
            }
            if (reason[own] != reason[j] || people[own] != people[j]) {
                return false;
            }
            if (Math.abs(miles[own] - miles[j]) > miles[own] / 10) {
                return false;
            }
            return holders.kindOn(holder[own], day[own], today) == holders.kindOn(holder[j], day[j], today);
        }

        boolean poolOf(Holders holders, int day, int way) {
            gather(holders, day, way);
            poolSet = 0;
            int bound = 1 << Math.min(pooled, MOST_POOLED);
            for (int set = 1; set < bound; set++) {
                weigh(set);
            }
            return poolSet != 0;
        }

        private void gather(Holders holders, int day, int way) {
            pooled = 0;
            poolPeople = 0;
            for (int j = 0; j < number && j < MOST_JOURNEYS && pooled < MOST_POOLED; j++) {
                if (this.day[j] == day && this.way[j] == way && holders.has(holder[j])) {
                    pooledSeats[pooled] = holders.seats[holder[j]];
                    pooledCost[pooled] = miles[j] * holders.size[holder[j]];
                    poolPeople += people[j];
                    pooled++;
                }
            }
        }

        /** Sets come by their numbers: of as good ones the first is kept. */
        private void weigh(int set) {
            int seats = 0;
            int cost = 0;
            for (int k = 0; k < pooled && k < MOST_POOLED; k++) {
                if ((set >> k & 1) == 1) {
                    seats += pooledSeats[k];
                    cost += pooledCost[k];
                }
            }
            int cars = Integer.bitCount(set);
            boolean better = poolSet == 0 || cars < poolCars || cars == poolCars && cost < poolCost;
            if (seats >= poolPeople && better) {
                poolSet = set;
                poolCars = cars;
                poolCost = cost;
            }
        }
    }

    /** The UNITS of a MONTH, dealt in OTHER WAYS. */
    private static final class Deal {
        private final int[] units = new int[MOST_HOLDERS];
        private final int[] served = new int[MOST_HOLDERS];
        private int number;

        void clear() {
            number = 0;
        }

        /** The next HOLDER's UNITS. */
        void put(int own) {
            if (number < units.length) {
                units[number] = own;
                number++;
            }
        }

        int unitsOf(int holder) {
            return holder >= 0 && holder < number && holder < units.length ? units[holder] : NONE;
        }

        private int together() {
            int sum = 0;
            for (int h = 0; h < number && h < units.length; h++) {
                sum += units[h];
            }
            return sum;
        }

        void alike() {
            int each = number > 0 ? together() / number : 0;
            for (int h = 0; h < number && h < units.length; h++) {
                units[h] = each;
            }
        }

        void sell(Holders holders) {
            int left = together();
            Arrays.fill(served, 0);
            for (int k = 0; k < number; k++) {
                int h = bestBidder(holders);
                if (h < 0 || h >= MOST_HOLDERS) {
                    return;
                }
                served[h] = 1;
                units[h] = Math.min(left, holders.need[h]);
                left -= units[h];
            }
        }

        private int bestBidder(Holders holders) {
            int best = NONE;
            for (int h = 0; h < number && holders.has(h); h++) {
                if (served[h] == 0 && (best == NONE || holders.bid[h] > holders.bid[best])) {
                    best = h;
                }
            }
            return best;
        }
    }
}
