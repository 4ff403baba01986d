import java.util.Arrays;

/** A market maker's mind: see ../shared/DOC.md, whose words in capitals stand in the comments here. */
public final class QuoteMind {
    public static final int NONE = -1, BAD = -2, STATE = -3, FULL = -4, OVER = -15;
    public static final long NO = Long.MIN_VALUE;

    /** Nobody, no such byte, no such FINE, no such STOCK: nothing is wrong, there just is none. */
    private static final int ABSENT = -5;
    private static final int NOTHING = -11, CAST = -12, PLACE = -13, BELOW_ZERO = -14;

    private static final int FAIR = 0, LIMIT = 1, ROUNDS = 2, FINE = 3, RISK = 4, TRADE_SIZE = 5, SETTINGS = 6;
    private static final int BID = 0, ASK = 1;
    private static final int NO_QUOTE = 6, DISTANCES = 7;
    private static final int ROUNDS_MOST = 8;
    private static final int STOCK_MOST = 8, STOCKS = 17;
    private static final int RIVALS_MOST = 8, DECKS = 3, PLACES = 4, EMPTY_PLACE = -1;
    private static final int SEEN_MOST = 5, EVENTS_MOST = 8, PLACE_EMPTIED = 3;
    private static final int FINES_TRIED = 21;
    private static final int TAPES = 6, TAPE_MOST = 60;
    /** Added to answers that may not look like a refusal. */
    private static final int HUNDRED = 100;
    private static final int FAULT_BASE = -10;

    private final State now = new State();
    private final State kept = new State();
    private boolean isKept;
    private final Backward backward = new Backward();
    private final OrderText text = new OrderText();
    private final Tape[] tapes = new Tape[TAPES];
    private final StringBuilder slip = new StringBuilder();

    public QuoteMind() {
        for (int i = 0; i < TAPES; i++) {
            tapes[i] = new Tape();
        }
    }

    // ---- the market

    public int set(int what, int v) {
        if (!within(what, 0, SETTINGS - 1)) {
            return NONE;
        }
        if (!Market.mayBe(what, v)) {
            return BAD;
        }
        int was = now.market.settings[what];
        now.market.settings[what] = v;
        return was;
    }

    public long told(int what) {
        if (within(what, 0, SETTINGS - 1)) {
            return now.market.settings[what];
        }
        switch (what) {
            case 6: return now.market.street;
            case 7: return now.market.rivalCount;
            case 8: return now.truth.quotes[BID];
            case 9: return now.truth.quotes[ASK];
            case 10: return now.truth.stock;
            case 11: return now.truth.cash;
            default: return NO;
        }
    }

    public int odds(int side, int distance, int v) {
        if (!isSide(side) || !isDistance(distance)) {
            return NONE;
        }
        if (!within(v, 0, 1000)) {
            return BAD;
        }
        int was = now.market.odds[side][distance];
        now.market.odds[side][distance] = v;
        return was;
    }

    public int rival(int kind, int x, int y) {
        if (!within(kind, Rival.STILL, Rival.KEENER)) {
            return NONE;
        }
        if (!isQuote(x) || !isQuote(y)) {
            return BAD;
        }
        return now.market.addRival(kind, x, y);
    }

    public int theirs(int rival, int side, int d) {
        Rival one = now.market.rivalOf(rival);
        if (one == null || !isSide(side)) {
            return NONE;
        }
        if (!isDistance(d)) {
            return BAD;
        }
        return one.distance(side, d);
    }

    public int lay(int deck, int place, int rival) {
        if (!isDeck(deck) || (rival != EMPTY_PLACE && now.market.rivalOf(rival) == null)) {
            return NONE;
        }
        if (!isPlace(place)) {
            return PLACE;
        }
        if (!now.market.takes(deck, rival)) {
            return CAST;
        }
        int was = now.market.holderOf(deck, place);
        now.market.decks[deck][place] = rival;
        return was;
    }

    public int at(int deck, int place) {
        if (!isDeck(deck)) {
            return NONE;
        }
        return isPlace(place) ? now.market.holderOf(deck, place) : PLACE;
    }

    public int street(int deck) {
        if (!isDeck(deck)) {
            return NONE;
        }
        int was = now.market.street;
        now.market.street = deck;
        return was;
    }

    public int copy(int from, int to) {
        if (!isDeck(from) || !isDeck(to)) {
            return NONE;
        }
        return now.market.copyDeck(from, to);
    }

    public int chance(int side, int d) {
        if (!isSide(side)) {
            return NONE;
        }
        return isQuote(d) ? now.market.likely(side, d, 0) : BAD;
    }

    // ---- the best rule, a told one

    public long value(int s, int t) {
        if (!isWithinLimit(s) || !within(t, 0, ROUNDS_MOST)) {
            return NO;
        }
        solveNow(t);
        return backward.valueOf(s, t);
    }

    public int best(int s, int t, int what) {
        if (!isSide(what)) {
            return NONE;
        }
        if (!isWithinLimit(s) || !within(t, 1, ROUNDS_MOST)) {
            return BAD;
        }
        solveNow(t);
        return backward.bestOf(s, t, what);
    }

    public int rule(int s, int b, int a) {
        if (!isStock(s) || !isQuote(b) || !isQuote(a)) {
            return BAD;
        }
        return now.changeRule(s, b, a);
    }

    public int adopt(int t) {
        if (!within(t, 1, ROUNDS_MOST)) {
            return BAD;
        }
        solveNow(t);
        int limit = limitNow();
        int others = 0;
        for (int s = -limit; s <= limit; s++) {
            int b = backward.bestOf(s, t, BID);
            int a = backward.bestOf(s, t, ASK);
            if (now.changeRule(s, b, a) != State.pairAsOne(b, a)) {
                others++;
            }
        }
        return others;
    }

    public long worth(int s, int t, int what) {
        if (!isWithinLimit(s) || !within(t, 0, ROUNDS_MOST) || !within(what, 0, 1)) {
            return NO;
        }
        solveNow(t);
        backward.weigh(now.rule, now.market.settings[FINE], t);
        long worth = backward.worthOf(s, t);
        return what == 0 ? worth : backward.valueOf(s, t) - worth;
    }

    public int ruled(int s, int what) {
        if (!isStock(s)) {
            return BAD;
        }
        return isSide(what) ? now.rule[what][s + STOCK_MOST] : NONE;
    }

    // ---- floats, doubles

    public int reserve(int s, int t, int what) {
        if (!isStock(s) || !within(t, 0, ROUNDS_MOST)) {
            return BAD;
        }
        if (!within(what, 0, 1)) {
            return NONE;
        }
        float fair = (float) now.market.settings[FAIR];
        float risk = (float) now.market.settings[RISK];
        float reserve = fair - ((float) s * (risk / 100.0f)) * (float) t;
        return what == 0 ? (int) bitsOf((double) reserve, 23, 127) : (int) (reserve + 0.5f);
    }

    public long meeting(int s, int t) {
        if (!isWithinLimit(s) || !within(t, 0, ROUNDS_MOST)) {
            return NO;
        }
        solveNow(t);
        backward.meet(t);
        return doubleBits(backward.meetingOf(s, t));
    }

    public long middle(int what) {
        switch (what) {
            case 0: return doubleBits(now.truth.middle);
            case 1: return doubleBits(now.truth.spread);
            case 2: return (long) now.truth.middle;
            case 3: return (long) now.truth.spread;
            default: return NO;
        }
    }

    // ---- in truth

    public int quote(int side, int d) {
        if (!isSide(side)) {
            return NONE;
        }
        if (!isQuote(d)) {
            return BAD;
        }
        int was = now.truth.quotes[side];
        now.truth.quotes[side] = d;
        return was;
    }

    public int trade(int side) {
        if (!isSide(side)) {
            return NONE;
        }
        int[] settings = now.market.settings;
        return now.truth.deal(side, settings[FAIR], settings[LIMIT], settings[TRADE_SIZE]);
    }

    public int feed(int sign) {
        return within(sign, 0, 127) ? text.addSign(sign) : BAD;
    }

    public int read() {
        int fault = text.faultOfAll();
        text.empty();
        if (fault != OrderText.NO_FAULT) {
            return FAULT_BASE - fault;
        }
        int done = 0;
        for (int i = 0; i < text.orderCount && i < OrderText.ORDERS_MOST; i++) {
            if (isDone(text.words[i], text.numbers[i])) {
                done++;
            }
        }
        return done;
    }

    public int ticket(int i) {
        if (i < 0) {
            return NONE;
        }
        writeTicket();
        return i < slip.length() ? (int) slip.charAt(i) : ABSENT;
    }

    // ---- seen, events

    public int see(int s, int b, int a) {
        if (b == -1) {
            now.notes.seenCount = 0;
            return 0;
        }
        if (!isStock(s) || !isQuote(b) || !isQuote(a)) {
            return BAD;
        }
        return now.notes.addSeen(s, b, a);
    }

    public int fits(int what) {
        if (!within(what, 0, 1)) {
            return NONE;
        }
        backward.look(now.market, 0);
        int many = 0;
        int least = ABSENT;
        for (int fine = 0; fine < FINES_TRIED; fine++) {
            if (isSeenBy(fine)) {
                least = many == 0 ? fine : least;
                many++;
            }
        }
        return what == 0 ? many : least;
    }

    public int event(int what, int n) {
        if (what == -1) {
            now.notes.eventCount = 0;
            return 0;
        }
        if (!within(what, 0, PLACE_EMPTIED)) {
            return NONE;
        }
        boolean may = what == PLACE_EMPTIED ? isPlace(n) : Market.mayBe(Notes.settingOf(what), n);
        return may ? now.notes.addEvent(what, n) : BAD;
    }

    public long after() {
        Notes notes = now.notes;
        int fine = notes.lastTold(FINE, now.market.settings[FINE]);
        int limit = notes.lastTold(LIMIT, now.market.settings[LIMIT]);
        int rounds = notes.lastTold(ROUNDS, now.market.settings[ROUNDS]);
        backward.look(now.market, notes.placesEmptied());
        backward.solve(limit, fine, rounds);
        return backward.valueOf(0, rounds);
    }

    public long taken(int b, int a, int part) {
        if (!isQuote(b) || !isQuote(a) || !within(part, 0, 1)) {
            return NO;
        }
        int above = now.market.likely(BID, b, 0) + now.market.likely(ASK, a, 0);
        int common = commonDivisor(above, 1000);
        return (part == 0 ? above : 1000) / common;
    }

    // ---- judging, the image, tapes

    public int judge(int side, int tape, int i) {
        if (!isSide(side) || !isTape(tape)) {
            return NONE;
        }
        Tape row = tapes[tape];
        if (row.sort != Tape.HOLDS_NOTHING && row.sort != Tape.BYTES) {
            return CAST;
        }
        if (row.sort == Tape.HOLDS_NOTHING || i < 0) {
            return HUNDRED;
        }
        int limit = limitNow();
        for (int looked = 0; looked <= 2 * limit; looked++) {
            if (i >= row.length - looked) {
                return HUNDRED + looked;
            }
            if (row.items[i + looked] != now.rule[side][looked - limit + STOCK_MOST]) {
                return looked;
            }
        }
        return ABSENT;
    }

    public int image() {
        kept.becomes(now);
        isKept = true;
        return now.market.rivalCount;
    }

    public int undo() {
        if (!isKept) {
            return STATE;
        }
        now.becomes(kept);
        return now.market.rivalCount;
    }

    public int count(int what) {
        switch (what) {
            case 0: return now.notes.seenCount;
            case 1: return now.notes.eventCount;
            case 2: return text.length;
            case 3:
                writeTicket();
                return slip.length();
            default: return BAD;
        }
    }

    public int tape(int tape, int sort, int n) {
        if (!isTape(tape)) {
            return NONE;
        }
        if (sort == Tape.HOLDS_NOTHING) {
            tapes[tape].becomeRow(sort, 0);
            return 1;
        }
        if (!within(sort, Tape.BYTES, Tape.BOOLEANS) || n > TAPE_MOST) {
            return BAD;
        }
        if (n < 0) {
            return BELOW_ZERO;
        }
        tapes[tape].becomeRow(sort, n);
        return 1;
    }

    public int item(int tape, int i, long v) {
        if (!isTape(tape)) {
            return NONE;
        }
        Tape row = tapes[tape];
        if (row.sort == Tape.HOLDS_NOTHING) {
            return NOTHING;
        }
        if (!within(i, 0, row.length - 1)) {
            return PLACE;
        }
        row.items[i] = row.narrowed(v);
        return 1;
    }

    public long peek(int tape, int i) {
        // A TAPE that holds nothing has the length 0.
        if (!isTape(tape) || !within(i, 0, tapes[tape].length - 1)) {
            return NO;
        }
        return tapes[tape].items[i];
    }

    public int shift(int tape, int i, int other, int j, int n) {
        if (!isTape(tape) || !isTape(other)) {
            return NONE;
        }
        Tape from = tapes[tape];
        Tape to = tapes[other];
        if (from.sort == Tape.HOLDS_NOTHING || to.sort == Tape.HOLDS_NOTHING) {
            return NOTHING;
        }
        if (from.sort != to.sort) {
            return CAST;
        }
        if (!from.hasRun(i, n) || !to.hasRun(j, n)) {
            return PLACE;
        }
        System.arraycopy(from.items, i, to.items, j, n);
        return n;
    }

    // ---- what the calls above share

    private static boolean within(int v, int least, int most) {
        return v >= least && v <= most;
    }

    private static boolean isSide(int side) {
        return side == BID || side == ASK;
    }

    private static boolean isDistance(int d) {
        return within(d, 0, NO_QUOTE - 1);
    }

    private static boolean isQuote(int d) {
        return within(d, 0, NO_QUOTE);
    }

    private static boolean isStock(int s) {
        return within(s, -STOCK_MOST, STOCK_MOST);
    }

    private static boolean isDeck(int deck) {
        return within(deck, 0, DECKS - 1);
    }

    private static boolean isPlace(int place) {
        return within(place, 0, PLACES - 1);
    }

    private static boolean isTape(int tape) {
        return within(tape, 0, TAPES - 1);
    }

    private int limitNow() {
        return now.market.settings[LIMIT];
    }

    private boolean isWithinLimit(int s) {
        return within(s, -limitNow(), limitNow());
    }

    private void solveNow(int rounds) {
        backward.look(now.market, 0);
        backward.solve(limitNow(), now.market.settings[FINE], rounds);
    }

    private static boolean wasDone(int answer) {
        return answer >= 0;
    }

    private boolean isDone(Word word, int number) {
        if (word == null) {
            return false;
        }
        switch (word) {
            case BID: return wasDone(quote(BID, number));
            case ASK: return wasDone(quote(ASK, number));
            case HIT: return wasDone(trade(BID));
            case LIFT: return wasDone(trade(ASK));
            case PULL: return wasDone(quote(BID, NO_QUOTE)) && wasDone(quote(ASK, NO_QUOTE));
            case FAIR: return wasDone(set(FAIR, number));
            case STREET: return wasDone(street(number));
            default: return false;
        }
    }

    private void writeTicket() {
        Truth truth = now.truth;
        slip.setLength(0);
        slip.append(truth.stock).append(' ').append(truth.cash).append(' ');
        writeQuote(truth.quotes[BID]);
        slip.append('/');
        writeQuote(truth.quotes[ASK]);
        slip.append(truth.stock > 0 ? " long" : truth.stock < 0 ? " short" : " flat");
    }

    private void writeQuote(int d) {
        if (d == NO_QUOTE) {
            slip.append('-');
        } else {
            slip.append(d);
        }
    }

    /** Whether BEST by a FINE is as all that is SEEN; THE STREET has been looked at already. */
    private boolean isSeenBy(int fine) {
        Notes notes = now.notes;
        if (notes.seenCount == 0) {
            return true;
        }
        int rounds = now.market.settings[ROUNDS];
        if (rounds == 0 || !isSeenWithinLimit()) {
            return false;
        }
        backward.solve(limitNow(), fine, rounds);
        for (int i = 0; i < notes.seenCount && i < SEEN_MOST; i++) {
            int s = notes.seenStocks[i];
            if (backward.bestOf(s, rounds, BID) != notes.seenBids[i]
                    || backward.bestOf(s, rounds, ASK) != notes.seenAsks[i]) {
                return false;
            }
        }
        return true;
    }

    private boolean isSeenWithinLimit() {
        for (int i = 0; i < now.notes.seenCount && i < SEEN_MOST; i++) {
            if (!isWithinLimit(now.notes.seenStocks[i])) {
                return false;
            }
        }
        return true;
    }

    /** The greatest divisor of both; at least 1, below being above 0. */
    private static int commonDivisor(int above, int below) {
        int a = below;
        int b = above;
        for (int step = 0; step < 100 && b > 0; step++) {
            int rest = a % b;
            a = b;
            b = rest;
        }
        return a < 1 ? 1 : a;
    }

    private static long doubleBits(double v) {
        return bitsOf(v, 52, 1023);
    }

    /**
     * The bits of a number that is 0.0 or above and far from the host's smallest and greatest ones, as all numbers
     * here are: all steps but the last cast are by powers of 2, so nothing is rounded.
     */
    private static long bitsOf(double v, int width, int bias) {
        if (v <= 0.0) {
            return 0;
        }
        double part = v;
        long exponent = bias;
        for (int step = 0; step < 1100 && part >= 2.0; step++) {
            part = part * 0.5;
            exponent++;
        }
        for (int step = 0; step < 1100 && part < 1.0; step++) {
            part = part * 2.0;
            exponent--;
        }
        return (exponent << width) + (long) ((part - 1.0) * (double) (1L << width));
    }

    private static void copyRows(int[][] from, int[][] to) {
        for (int i = 0; i < from.length && i < to.length; i++) {
            System.arraycopy(from[i], 0, to[i], 0, Math.min(from[i].length, to[i].length));
        }
    }

    /** A RIVAL never changes, so THE IMAGE may hold the same ones. */
    private static final class Rival {
        static final int STILL = 0, KEEN = 1, SHY = 2, KEENER = 3;

        private final int kind;
        private final int x;
        private final int y;

        Rival(int kind, int x, int y) {
            this.kind = kind;
            this.x = x;
            this.y = y;
        }

        boolean isKeen() {
            return kind == KEEN || kind == KEENER;
        }

        boolean isShy() {
            return kind == SHY;
        }

        int distance(int side, int d) {
            switch (kind) {
                case STILL: return side == BID ? x : y;
                case KEEN: return keenDistance(d);
                case SHY: return Math.min(NO_QUOTE, d + 1);
                default: return Math.max(0, keenDistance(d) - x);
            }
        }

        private static int keenDistance(int d) {
            return Math.max(0, d - 1);
        }
    }

    /** FAIR to SIZE by their numbers, ODDS, RIVALS, DECKS. */
    private static final class Market {
        private static final int[] LEAST = {100, 1, 0, 0, 0, 1};
        private static final int[] MOST = {9999, 8, 8, 99, 99, 1000000};

        final int[] settings = {1000, 4, 4, 2, 5, 1};
        final int[][] odds = {{600, 400, 250, 120, 50, 10}, {600, 400, 250, 120, 50, 10}};
        private final Rival[] rivals = new Rival[RIVALS_MOST];
        int rivalCount;
        final int[][] decks = new int[DECKS][PLACES];
        int street;

        Market() {
            for (int deck = 0; deck < DECKS; deck++) {
                Arrays.fill(decks[deck], EMPTY_PLACE);
            }
        }

        static boolean mayBe(int what, int v) {
            return within(what, 0, SETTINGS - 1) && within(v, LEAST[what], MOST[what]);
        }

        int addRival(int kind, int x, int y) {
            if (rivalCount >= RIVALS_MOST) {
                return FULL;
            }
            rivals[rivalCount] = new Rival(kind, x, y);
            rivalCount++;
            return rivalCount - 1;
        }

        /** Null: there is no such RIVAL. */
        Rival rivalOf(int number) {
            return within(number, 0, rivalCount - 1) ? rivals[number] : null;
        }

        int holderOf(int deck, int place) {
            int number = decks[deck][place];
            return number == EMPTY_PLACE ? ABSENT : number;
        }

        boolean takes(int deck, int number) {
            Rival rival = rivalOf(number);
            if (rival == null || deck == 0) {
                return true;
            }
            return deck == 1 ? rival.isKeen() : rival.isShy();
        }

        int copyDeck(int from, int to) {
            for (int place = 0; place < PLACES; place++) {
                if (!takes(to, decks[from][place])) {
                    return place;
                }
                decks[to][place] = decks[from][place];
            }
            return PLACES;
        }

        /** CHANCE, as if the places of THE STREET in gone (a bit each) held nothing. */
        int likely(int side, int d, int gone) {
            if (d >= NO_QUOTE) {
                return 0;
            }
            int likely = odds[side][d];
            for (int place = 0; place < PLACES; place++) {
                Rival rival = rivalOf(decks[street][place]);
                if (rival != null && (gone >> place & 1) == 0) {
                    likely = besideRival(likely, rival.distance(side, d), d);
                }
            }
            return likely;
        }

        private static int besideRival(int likely, int theirs, int d) {
            if (theirs < d) {
                return likely / 2;
            }
            return theirs == d ? likely * 3 / 4 : likely;
        }

        void becomes(Market other) {
            System.arraycopy(other.settings, 0, settings, 0, SETTINGS);
            copyRows(other.odds, odds);
            for (int i = 0; i < RIVALS_MOST; i++) {
                rivals[i] = other.rivals[i];
            }
            rivalCount = other.rivalCount;
            copyRows(other.decks, decks);
            street = other.street;
        }
    }

    /** What there is IN TRUTH; SIZE stands with the settings. */
    private static final class Truth {
        final int[] quotes = {NO_QUOTE, NO_QUOTE};
        int stock;
        int cash;
        double middle = 1000.0;
        double spread;

        int deal(int side, int fair, int limit, int size) {
            int stockThen = side == BID ? stock + 1 : stock - 1;
            if (quotes[side] == NO_QUOTE || !within(stockThen, -limit, limit)) {
                return STATE;
            }
            int price = side == BID ? fair - quotes[BID] : fair + quotes[ASK];
            long amount = (long) price * size;
            long cashThen = side == BID ? cash - amount : cash + amount;
            if (!isInt(amount) || !isInt(cashThen)) {
                return OVER;
            }
            stock = stockThen;
            cash = (int) cashThen;
            smooth((double) price);
            return HUNDRED + stock;
        }

        private static boolean isInt(long v) {
            return v == (int) v;
        }

        /** SPREAD goes by MIDDLE as it was, so it comes first. */
        private void smooth(double price) {
            spread = spread * 0.75 + (price - middle) * (price - middle) * 0.25;
            middle = middle + (price - middle) * 0.25;
        }

        void becomes(Truth other) {
            quotes[BID] = other.quotes[BID];
            quotes[ASK] = other.quotes[ASK];
            stock = other.stock;
            cash = other.cash;
            middle = other.middle;
            spread = other.spread;
        }
    }

    /** What is told by hand: SEEN, EVENTS. */
    private static final class Notes {
        private static final int[] SETTING_OF_EVENT = {FINE, LIMIT, ROUNDS};

        final int[] seenStocks = new int[SEEN_MOST];
        final int[] seenBids = new int[SEEN_MOST];
        final int[] seenAsks = new int[SEEN_MOST];
        int seenCount;
        private final int[] eventKinds = new int[EVENTS_MOST];
        private final int[] eventNumbers = new int[EVENTS_MOST];
        int eventCount;

        /** Which setting an EVENT tells; -1: none. */
        static int settingOf(int what) {
            return within(what, 0, SETTING_OF_EVENT.length - 1) ? SETTING_OF_EVENT[what] : -1;
        }

        int addSeen(int s, int b, int a) {
            if (seenCount >= SEEN_MOST) {
                return FULL;
            }
            seenStocks[seenCount] = s;
            seenBids[seenCount] = b;
            seenAsks[seenCount] = a;
            seenCount++;
            return seenCount;
        }

        int addEvent(int what, int n) {
            if (eventCount >= EVENTS_MOST) {
                return FULL;
            }
            eventKinds[eventCount] = what;
            eventNumbers[eventCount] = n;
            eventCount++;
            return eventCount;
        }

        /** What a setting is behind all EVENTS. */
        int lastTold(int setting, int otherwise) {
            int told = otherwise;
            for (int i = 0; i < eventCount && i < EVENTS_MOST; i++) {
                if (settingOf(eventKinds[i]) == setting) {
                    told = eventNumbers[i];
                }
            }
            return told;
        }

        /** The places of THE STREET, a bit each, that hold nothing behind all EVENTS. */
        int placesEmptied() {
            int gone = 0;
            for (int i = 0; i < eventCount && i < EVENTS_MOST; i++) {
                if (eventKinds[i] == PLACE_EMPTIED) {
                    gone = gone | 1 << eventNumbers[i];
                }
            }
            return gone;
        }

        void becomes(Notes other) {
            System.arraycopy(other.seenStocks, 0, seenStocks, 0, SEEN_MOST);
            System.arraycopy(other.seenBids, 0, seenBids, 0, SEEN_MOST);
            System.arraycopy(other.seenAsks, 0, seenAsks, 0, SEEN_MOST);
            seenCount = other.seenCount;
            System.arraycopy(other.eventKinds, 0, eventKinds, 0, EVENTS_MOST);
            System.arraycopy(other.eventNumbers, 0, eventNumbers, 0, EVENTS_MOST);
            eventCount = other.eventCount;
        }
    }

    /** All that THE IMAGE holds. */
    private static final class State {
        final Market market = new Market();
        final Truth truth = new Truth();
        final Notes notes = new Notes();
        /** By side, then by STOCK and STOCK_MOST. */
        final int[][] rule = new int[2][STOCKS];

        State() {
            Arrays.fill(rule[BID], NO_QUOTE);
            Arrays.fill(rule[ASK], NO_QUOTE);
        }

        static int pairAsOne(int b, int a) {
            return 10 * b + a;
        }

        int changeRule(int s, int b, int a) {
            int i = s + STOCK_MOST;
            int was = pairAsOne(rule[BID][i], rule[ASK][i]);
            rule[BID][i] = b;
            rule[ASK][i] = a;
            return was;
        }

        void becomes(State other) {
            market.becomes(other.market);
            truth.becomes(other.truth);
            notes.becomes(other.notes);
            copyRows(other.rule, rule);
        }
    }

    /**
     * VALUE, BEST, WORTH and MEETING by backward rounds. The rows are made once and written again by every call: row t
     * is of t ROUNDS to go, its item STOCK and STOCK_MOST.
     */
    private static final class Backward {
        private static final long MILLION = 1000000L;

        private final int[][] chances = new int[2][DISTANCES];
        private final long[][] values = new long[ROUNDS_MOST + 1][STOCKS];
        private final int[][] bestBids = new int[ROUNDS_MOST + 1][STOCKS];
        private final int[][] bestAsks = new int[ROUNDS_MOST + 1][STOCKS];
        private final long[][] worths = new long[ROUNDS_MOST + 1][STOCKS];
        private final double[][] meetings = new double[ROUNDS_MOST + 1][STOCKS];
        private int limit;

        /** CHANCES, as if the places of THE STREET in gone (a bit each) held nothing. */
        void look(Market market, int gone) {
            for (int d = 0; d < DISTANCES; d++) {
                chances[BID][d] = market.likely(BID, d, gone);
                chances[ASK][d] = market.likely(ASK, d, gone);
            }
        }

        /** VALUE and BEST, by the CHANCES that were looked at last. */
        void solve(int newLimit, int fine, int rounds) {
            limit = newLimit;
            finish(values[0], fine);
            for (int t = 1; t <= rounds && t <= ROUNDS_MOST; t++) {
                for (int s = -limit; s <= limit; s++) {
                    choose(s, t);
                }
            }
        }

        /** WORTH of a rule, within the LIMIT that was solved for last. */
        void weigh(int[][] rule, int fine, int rounds) {
            finish(worths[0], fine);
            for (int t = 1; t <= rounds && t <= ROUNDS_MOST; t++) {
                long[] before = worths[t - 1];
                for (int s = -limit; s <= limit; s++) {
                    int b = s == limit ? NO_QUOTE : rule[BID][s + STOCK_MOST];
                    int a = s == -limit ? NO_QUOTE : rule[ASK][s + STOCK_MOST];
                    worths[t][s + STOCK_MOST] = mean(b, a, held(before, s), held(before, s + 1), held(before, s - 1));
                }
            }
        }

        /** MEETING by the BEST that was solved for last. */
        void meet(int rounds) {
            for (int t = 0; t <= rounds && t <= ROUNDS_MOST; t++) {
                for (int s = -limit; s <= limit; s++) {
                    meetings[t][s + STOCK_MOST] = chanceToMeet(s, t);
                }
            }
        }

        long valueOf(int s, int t) {
            return values[t][s + STOCK_MOST];
        }

        long worthOf(int s, int t) {
            return worths[t][s + STOCK_MOST];
        }

        double meetingOf(int s, int t) {
            return meetings[t][s + STOCK_MOST];
        }

        int bestOf(int s, int t, int side) {
            return side == BID ? bestBids[t][s + STOCK_MOST] : bestAsks[t][s + STOCK_MOST];
        }

        private void finish(long[] row, int fine) {
            for (int s = -limit; s <= limit; s++) {
                row[s + STOCK_MOST] = -MILLION * fine * s * s;
            }
        }

        /** Beyond LIMIT 0 will do: its factor is 0 too, as a quote that leads there is forbidden. */
        private long held(long[] row, int s) {
            return within(s, -limit, limit) ? row[s + STOCK_MOST] : 0;
        }

        private void choose(int s, int t) {
            long[] before = values[t - 1];
            long same = held(before, s);
            long more = held(before, s + 1);
            long less = held(before, s - 1);
            int i = s + STOCK_MOST;
            // NO is below every VALUE, so the first pair takes its place.
            values[t][i] = NO;
            for (int b = s == limit ? NO_QUOTE : 0; b <= NO_QUOTE; b++) {
                for (int a = s == -limit ? NO_QUOTE : 0; a <= NO_QUOTE; a++) {
                    long value = mean(b, a, same, more, less);
                    if (value > values[t][i]) {
                        values[t][i] = value;
                        bestBids[t][i] = b;
                        bestAsks[t][i] = a;
                    }
                }
            }
        }

        /** VALUE of a pair, the VALUES of the same STOCK, of 1 more and of 1 less behind it being told. */
        private long mean(int b, int a, long same, long more, long less) {
            long bought = chances[BID][b];
            long sold = chances[ASK][a];
            long notBought = 1000 - bought;
            long notSold = 1000 - sold;
            long sum = bought * sold * (same + (b + a) * MILLION)
                    + bought * notSold * (more + b * MILLION)
                    + notBought * sold * (less + a * MILLION)
                    + notBought * notSold * same;
            return Math.floorDiv(sum, MILLION);
        }

        private double chanceToMeet(int s, int t) {
            if (s >= limit || s <= -limit) {
                return 1.0;
            }
            if (t < 1) {
                return 0.0;
            }
            int i = s + STOCK_MOST;
            double u = (double) chances[BID][bestBids[t][i]] / 1000.0;
            double v = (double) chances[ASK][bestAsks[t][i]] / 1000.0;
            double same = meetings[t - 1][i];
            double more = meetings[t - 1][i + 1];
            double less = meetings[t - 1][i - 1];
            return ((u * v) * same) + ((u * (1.0 - v)) * more) + (((1.0 - u) * v) * less)
                    + (((1.0 - u) * (1.0 - v)) * same);
        }
    }

    /** The WORDS of ORDERS, and how many digits come behind each. */
    private enum Word {
        BID("bid", 1, 1), ASK("ask", 1, 1), HIT("hit", 0, 0), LIFT("lift", 0, 0), PULL("pull", 0, 0),
        FAIR("fair", 3, 4), STREET("street", 1, 1);

        private static final Word[] ALL = values();

        private final String letters;
        private final int digitsLeast;
        private final int digitsMost;

        Word(String letters, int digitsLeast, int digitsMost) {
            this.letters = letters;
            this.digitsLeast = digitsLeast;
            this.digitsMost = digitsMost;
        }

        /** Null: there is no such WORD. */
        static Word of(byte[] signs, int from, int to) {
            for (int i = 0; i < ALL.length; i++) {
                if (ALL[i].isAt(signs, from, to)) {
                    return ALL[i];
                }
            }
            return null;
        }

        private boolean isAt(byte[] signs, int from, int to) {
            if (from < 0 || to > signs.length || to - from != letters.length()) {
                return false;
            }
            for (int i = from; i < to; i++) {
                if (signs[i] != letters.charAt(i - from)) {
                    return false;
                }
            }
            return true;
        }

        boolean hasDigits(int digits) {
            return within(digits, digitsLeast, digitsMost);
        }
    }

    /** THE TEXT, and the ORDERS that were read from it last. */
    private static final class OrderText {
        static final int NO_FAULT = -1, ORDERS_MOST = 12;
        private static final int SIGNS_MOST = 100, DIGITS_MOST = 4;

        private final byte[] signs = new byte[SIGNS_MOST];
        int length;
        private int cursor;
        final Word[] words = new Word[ORDERS_MOST];
        final int[] numbers = new int[ORDERS_MOST];
        int orderCount;

        int addSign(int sign) {
            if (length >= SIGNS_MOST) {
                return FULL;
            }
            signs[length] = (byte) sign;
            length++;
            return length;
        }

        void empty() {
            length = 0;
        }

        int faultOfAll() {
            cursor = 0;
            orderCount = 0;
            for (int n = 0; n < ORDERS_MOST; n++) {
                int fault = faultOfOrder();
                if (fault != NO_FAULT) {
                    return fault;
                }
                if (cursor >= length) {
                    return NO_FAULT;
                }
                if (signs[cursor] != ';') {
                    return cursor;
                }
                cursor++;
            }
            return cursor - 1;
        }

        private int faultOfOrder() {
            int start = cursor;
            int behindLetters = endOfRun(start, 'a', 'z', SIGNS_MOST);
            Word word = Word.of(signs, start, behindLetters);
            if (word == null) {
                return start;
            }
            int behindDigits = endOfRun(behindLetters, '0', '9', DIGITS_MOST);
            if (!word.hasDigits(behindDigits - behindLetters)) {
                return behindLetters;
            }
            if (orderCount < ORDERS_MOST) {
                words[orderCount] = word;
                numbers[orderCount] = numberAt(behindLetters, behindDigits);
                orderCount++;
            }
            cursor = behindDigits;
            return NO_FAULT;
        }

        private int endOfRun(int from, char first, char last, int most) {
            int end = from;
            while (end < length && end - from < most && signs[end] >= first && signs[end] <= last) {
                end++;
            }
            return end;
        }

        private int numberAt(int from, int to) {
            int number = 0;
            for (int i = from; i < to && i < length; i++) {
                number = 10 * number + signs[i] - '0';
            }
            return number;
        }
    }

    /** A row of one sort; its items stand as longs, narrowed to what the sort can hold. */
    private static final class Tape {
        static final int HOLDS_NOTHING = -1, BYTES = 0, SHORTS = 1, INTS = 2, LONGS = 3, BOOLEANS = 4;

        final long[] items = new long[TAPE_MOST];
        int sort = HOLDS_NOTHING;
        int length;

        void becomeRow(int newSort, int n) {
            sort = newSort;
            length = n;
            Arrays.fill(items, 0L);
        }

        long narrowed(long v) {
            switch (sort) {
                case BYTES: return (byte) v;
                case SHORTS: return (short) v;
                case INTS: return (int) v;
                case LONGS: return v;
                default: return v != 0 ? 1 : 0;
            }
        }

        /** Whether the row has n items from i on. */
        boolean hasRun(int i, int n) {
            return within(n, 0, length) && within(i, 0, length - n);
        }
    }
}
