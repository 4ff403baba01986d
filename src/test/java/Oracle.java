import java.math.BigInteger;
import java.util.ArrayList;
import java.util.HashMap;
import java.util.List;
import java.util.Map;
import java.util.regex.Matcher;
import java.util.regex.Pattern;

/**
 * The document read a second time, in another way than the program: by recursion, by typed rows of the host and what
 * the host refuses, by patterns, by the host's own bits of floats and doubles. It answers calls by their names.
 */
final class Oracle {
    static final long NO = Long.MIN_VALUE;

    /** A RIVAL, by kinds as classes, so that the host's typed rows are the DECKS. */
    static class Rival {
        final int x;
        final int y;

        Rival(int x, int y) {
            this.x = x;
            this.y = y;
        }

        int theirs(int side, int d) {
            return side == 0 ? x : y;
        }
    }

    static class Keen extends Rival {
        Keen(int x, int y) {
            super(x, y);
        }

        @Override int theirs(int side, int d) {
            return d == 0 ? 0 : d - 1;
        }
    }

    static final class Keener extends Keen {
        Keener(int x, int y) {
            super(x, y);
        }

        @Override int theirs(int side, int d) {
            int keen = super.theirs(side, d);
            return keen < x ? 0 : keen - x;
        }
    }

    static final class Shy extends Rival {
        Shy(int x, int y) {
            super(x, y);
        }

        @Override int theirs(int side, int d) {
            return d >= 5 ? 6 : d + 1;
        }
    }

    /** All that THE IMAGE holds. */
    static final class World {
        Map<String, Integer> set = new HashMap<>(Map.of("FAIR", 1000, "LIMIT", 4, "ROUNDS", 4, "FINE", 2, "RISK", 5,
                "SIZE", 1, "STREET", 0, "BID", 6, "ASK", 6, "STOCK", 0));
        int cash;
        double middle = 1000.0;
        double spread = 0.0;
        int[][] odds = {{600, 400, 250, 120, 50, 10}, {600, 400, 250, 120, 50, 10}};
        List<Rival> rivals = new ArrayList<>();
        Rival[][] decks = {new Rival[4], new Keen[4], new Shy[4]};
        Map<Integer, int[]> rule = new HashMap<>();
        List<int[]> seen = new ArrayList<>();
        List<int[]> events = new ArrayList<>();

        World twin() {
            World twin = new World();
            twin.set = new HashMap<>(set);
            twin.cash = cash;
            twin.middle = middle;
            twin.spread = spread;
            twin.odds = new int[][] {odds[0].clone(), odds[1].clone()};
            twin.rivals = new ArrayList<>(rivals);
            twin.decks = new Rival[][] {decks[0].clone(), decks[1].clone(), decks[2].clone()};
            twin.rule = new HashMap<>(rule);
            twin.seen = new ArrayList<>(seen);
            twin.events = new ArrayList<>(events);
            return twin;
        }

        int get(String name) {
            return set.get(name);
        }
    }

    /** VALUES by recursion, of one LIMIT, one FINE and one STREET. */
    static final class Mind {
        final int limit;
        final int fine;
        final int[][] chances;
        final Map<Integer, int[]> rule;
        final Map<Integer, long[]> known = new HashMap<>();
        final Map<Integer, Long> knownWorth = new HashMap<>();

        Mind(int limit, int fine, int[][] chances, Map<Integer, int[]> rule) {
            this.limit = limit;
            this.fine = fine;
            this.chances = chances;
            this.rule = rule;
        }

        long last(int s) {
            return -1000000L * fine * s * s;
        }

        /** VALUE, BEST BID, BEST ASK. */
        long[] best(int s, int t) {
            if (t == 0) {
                return new long[] {last(s), -1, -1};
            }
            int key = s * 100 + t;
            long[] found = known.get(key);
            if (found != null) {
                return found;
            }
            for (int b = 0; b <= 6; b++) {
                for (int a = 0; a <= 6; a++) {
                    if ((s == limit && b != 6) || (s == -limit && a != 6)) {
                        continue;
                    }
                    long v = pair(s, t, b, a, true);
                    if (found == null || found[0] < v) {
                        found = new long[] {v, b, a};
                    }
                }
            }
            known.put(key, found);
            return found;
        }

        long worth(int s, int t) {
            if (t == 0) {
                return last(s);
            }
            int key = s * 100 + t;
            if (!knownWorth.containsKey(key)) {
                int[] told = rule.getOrDefault(s, new int[] {6, 6});
                knownWorth.put(key, pair(s, t, s == limit ? 6 : told[0], s == -limit ? 6 : told[1], false));
            }
            return knownWorth.get(key);
        }

        private long pair(int s, int t, int b, int a, boolean byBest) {
            int bought = chances[0][b];
            int sold = chances[1][a];
            BigInteger sum = term(bought, sold, s, t, b + a, byBest).add(term(bought, 1000 - sold, s + 1, t, b, byBest))
                    .add(term(1000 - bought, sold, s - 1, t, a, byBest))
                    .add(term(1000 - bought, 1000 - sold, s, t, 0, byBest));
            BigInteger[] parts = sum.divideAndRemainder(BigInteger.valueOf(1000000));
            return parts[1].signum() < 0 ? parts[0].longValueExact() - 1 : parts[0].longValueExact();
        }

        private BigInteger term(int f, int g, int s, int t, int millions, boolean byBest) {
            if (f == 0 || g == 0) {
                return BigInteger.ZERO;
            }
            long then = byBest ? best(s, t - 1)[0] : worth(s, t - 1);
            return BigInteger.valueOf(then + 1000000L * millions).multiply(BigInteger.valueOf((long) f * g));
        }

        double meeting(int s, int t, Map<Integer, Double> found) {
            if (Math.abs(s) == limit) {
                return 1.0;
            }
            if (t == 0) {
                return 0.0;
            }
            int key = s * 100 + t;
            if (found.containsKey(key)) {
                return found.get(key);
            }
            long[] best = best(s, t);
            double u = chances[0][(int) best[1]];
            u /= 1000.0;
            double v = chances[1][(int) best[2]];
            v /= 1000.0;
            double first = (u * v) * meeting(s, t - 1, found);
            double second = (u * (1.0 - v)) * meeting(s + 1, t - 1, found);
            double third = ((1.0 - u) * v) * meeting(s - 1, t - 1, found);
            double fourth = ((1.0 - u) * (1.0 - v)) * meeting(s, t - 1, found);
            double sum = first + second;
            sum += third;
            sum += fourth;
            found.put(key, sum);
            return sum;
        }
    }

    private static final String[] SETTINGS = {"FAIR", "LIMIT", "ROUNDS", "FINE", "RISK", "SIZE"};
    private static final int[][] SPAN = {{100, 9999}, {1, 8}, {0, 8}, {0, 99}, {0, 99}, {1, 1000000}};
    private static final String[] TOLD = {"FAIR", "LIMIT", "ROUNDS", "FINE", "RISK", "SIZE", "STREET", null, "BID",
        "ASK", "STOCK"};
    private static final Pattern WORD = Pattern.compile("([a-z]+)([0-9]{0,4})");

    private World w = new World();
    private World image;
    private String text = "";
    private final Object[] tapes = new Object[6];

    private static boolean in(long v, long least, long most) {
        return least <= v && v <= most;
    }

    long answer(String call, long[] g) {
        switch (call) {
            case "set": return set((int) g[0], (int) g[1]);
            case "told": return told((int) g[0]);
            case "odds": return odds((int) g[0], (int) g[1], (int) g[2]);
            case "rival": return rival((int) g[0], (int) g[1], (int) g[2]);
            case "theirs": return theirs((int) g[0], (int) g[1], (int) g[2]);
            case "lay": return lay((int) g[0], (int) g[1], (int) g[2]);
            case "at": return at((int) g[0], (int) g[1]);
            case "street": return street((int) g[0]);
            case "copy": return copy((int) g[0], (int) g[1]);
            case "chance": return !in(g[0], 0, 1) ? -1 : !in(g[1], 0, 6) ? -2 : chance((int) g[0], (int) g[1], List.of());
            case "value": return stockAndRounds(g, 0) ? mind().best((int) g[0], (int) g[1])[0] : NO;
            case "best": return !in(g[2], 0, 1) ? -1
                : stockAndRounds(g, 1) ? mind().best((int) g[0], (int) g[1])[1 + (int) g[2]] : -2;
            case "rule": return rule((int) g[0], (int) g[1], (int) g[2]);
            case "adopt": return adopt((int) g[0]);
            case "worth": return worth(g);
            case "ruled": return !in(g[0], -8, 8) ? -2 : !in(g[1], 0, 1) ? -1 : ruled((int) g[0])[(int) g[1]];
            default: return second(call, g);
        }
    }

    private long second(String call, long[] g) {
        switch (call) {
            case "reserve": return reserve((int) g[0], (int) g[1], (int) g[2]);
            case "meeting": return !stockAndRounds(g, 0) ? NO
                : Double.doubleToRawLongBits(mind().meeting((int) g[0], (int) g[1], new HashMap<>()));
            case "middle": return middle((int) g[0]);
            case "quote": return quote((int) g[0], (int) g[1]);
            case "trade": return trade((int) g[0]);
            case "feed": return feed((int) g[0]);
            case "read": return read();
            case "ticket": return g[0] < 0 ? -1 : g[0] >= ticket().length() ? -5 : ticket().charAt((int) g[0]);
            case "see": return see((int) g[0], (int) g[1], (int) g[2]);
            case "fits": return fits((int) g[0]);
            case "event": return event((int) g[0], (int) g[1]);
            case "after": return after();
            case "taken": return taken((int) g[0], (int) g[1], (int) g[2]);
            case "judge": return judge((int) g[0], (int) g[1], (int) g[2]);
            default: return third(call, g);
        }
    }

    private long third(String call, long[] g) {
        switch (call) {
            case "image":
                image = w.twin();
                return w.rivals.size();
            case "undo":
                if (image == null) {
                    return -3;
                }
                w = image.twin();
                return w.rivals.size();
            case "count":
                int[] counts = {w.seen.size(), w.events.size(), text.length(), ticket().length()};
                return in(g[0], 0, 3) ? counts[(int) g[0]] : -2;
            case "tape": return tape((int) g[0], (int) g[1], (int) g[2]);
            case "item": return item((int) g[0], (int) g[1], g[2]);
            case "peek": return peek((int) g[0], (int) g[1]);
            case "shift": return shift((int) g[0], (int) g[1], (int) g[2], (int) g[3], (int) g[4]);
            default: throw new IllegalArgumentException(call);
        }
    }

    private long set(int what, int v) {
        if (!in(what, 0, 5)) {
            return -1;
        }
        return in(v, SPAN[what][0], SPAN[what][1]) ? w.set.put(SETTINGS[what], v) : -2;
    }

    private long told(int what) {
        if (what == 7) {
            return w.rivals.size();
        }
        if (what == 11) {
            return w.cash;
        }
        return in(what, 0, 10) ? w.get(TOLD[what]) : NO;
    }

    private long odds(int side, int distance, int v) {
        if (!in(side, 0, 1) || !in(distance, 0, 5)) {
            return -1;
        }
        if (!in(v, 0, 1000)) {
            return -2;
        }
        int was = w.odds[side][distance];
        w.odds[side][distance] = v;
        return was;
    }

    private long rival(int kind, int x, int y) {
        if (!in(kind, 0, 3)) {
            return -1;
        }
        if (!in(x, 0, 6) || !in(y, 0, 6)) {
            return -2;
        }
        if (w.rivals.size() == 8) {
            return -4;
        }
        Rival[] kinds = {new Rival(x, y), new Keen(x, y), new Shy(x, y), new Keener(x, y)};
        w.rivals.add(kinds[kind]);
        return w.rivals.size() - 1;
    }

    private long theirs(int rival, int side, int d) {
        if (!in(rival, 0, w.rivals.size() - 1) || !in(side, 0, 1)) {
            return -1;
        }
        return in(d, 0, 5) ? w.rivals.get(rival).theirs(side, d) : -2;
    }

    private long whom(Rival rival) {
        return rival == null ? -5 : w.rivals.indexOf(rival);
    }

    private long lay(int deck, int place, int rival) {
        if (!in(deck, 0, 2) || !in(rival, -1, w.rivals.size() - 1)) {
            return -1;
        }
        try {
            Rival was = w.decks[deck][place];
            w.decks[deck][place] = rival < 0 ? null : w.rivals.get(rival);
            return whom(was);
        } catch (ArrayIndexOutOfBoundsException e) {
            return -13;
        } catch (ArrayStoreException e) {
            return -12;
        }
    }

    private long at(int deck, int place) {
        if (!in(deck, 0, 2)) {
            return -1;
        }
        return in(place, 0, 3) ? whom(w.decks[deck][place]) : -13;
    }

    private long street(int deck) {
        return in(deck, 0, 2) ? w.set.put("STREET", deck) : -1;
    }

    private long copy(int from, int to) {
        if (!in(from, 0, 2) || !in(to, 0, 2)) {
            return -1;
        }
        for (int i = 0; i < 4; i++) {
            try {
                w.decks[to][i] = w.decks[from][i];
            } catch (ArrayStoreException e) {
                return i;
            }
        }
        return 4;
    }

    private int chance(int side, int d, List<Integer> emptied) {
        if (d == 6) {
            return 0;
        }
        int chance = w.odds[side][d];
        Rival[] street = w.decks[w.get("STREET")];
        for (int i = 0; i < 4; i++) {
            if (street[i] == null || emptied.contains(i)) {
                continue;
            }
            int theirs = street[i].theirs(side, d);
            if (theirs < d) {
                chance = chance / 2;
            } else if (theirs == d) {
                chance = 3 * chance / 4;
            }
        }
        return chance;
    }

    private int[][] chances(List<Integer> emptied) {
        int[][] chances = new int[2][7];
        for (int d = 0; d <= 6; d++) {
            chances[0][d] = chance(0, d, emptied);
            chances[1][d] = chance(1, d, emptied);
        }
        return chances;
    }

    private Mind mind() {
        return new Mind(w.get("LIMIT"), w.get("FINE"), chances(List.of()), w.rule);
    }

    private boolean stockAndRounds(long[] g, int roundsLeast) {
        return in(g[0], -w.get("LIMIT"), w.get("LIMIT")) && in(g[1], roundsLeast, 8);
    }

    private int[] ruled(int s) {
        return w.rule.getOrDefault(s, new int[] {6, 6});
    }

    private long rule(int s, int b, int a) {
        if (!in(s, -8, 8) || !in(b, 0, 6) || !in(a, 0, 6)) {
            return -2;
        }
        int[] was = ruled(s);
        w.rule.put(s, new int[] {b, a});
        return was[0] * 10 + was[1];
    }

    private long adopt(int t) {
        if (!in(t, 1, 8)) {
            return -2;
        }
        Mind mind = mind();
        int others = 0;
        for (int s = -mind.limit; s <= mind.limit; s++) {
            long[] best = mind.best(s, t);
            if (best[1] != ruled(s)[0] || best[2] != ruled(s)[1]) {
                others++;
            }
            rule(s, (int) best[1], (int) best[2]);
        }
        return others;
    }

    private long worth(long[] g) {
        if (!stockAndRounds(g, 0) || !in(g[2], 0, 1)) {
            return NO;
        }
        Mind mind = mind();
        long worth = mind.worth((int) g[0], (int) g[1]);
        return g[2] == 0 ? worth : mind.best((int) g[0], (int) g[1])[0] - worth;
    }

    private long reserve(int s, int t, int what) {
        if (!in(s, -8, 8) || !in(t, 0, 8)) {
            return -2;
        }
        if (!in(what, 0, 1)) {
            return -1;
        }
        float byStock = w.get("RISK");
        byStock /= 100.0f;
        byStock *= s;
        byStock *= t;
        float reserve = w.get("FAIR");
        reserve -= byStock;
        return what == 0 ? Float.floatToRawIntBits(reserve) : (int) (reserve + 0.5f);
    }

    private long middle(int what) {
        switch (what) {
            case 0: return Double.doubleToRawLongBits(w.middle);
            case 1: return Double.doubleToRawLongBits(w.spread);
            case 2: return (long) w.middle;
            case 3: return (long) w.spread;
            default: return NO;
        }
    }

    private long quote(int side, int d) {
        if (!in(side, 0, 1)) {
            return -1;
        }
        return in(d, 0, 6) ? w.set.put(side == 0 ? "BID" : "ASK", d) : -2;
    }

    private long trade(int side) {
        if (!in(side, 0, 1)) {
            return -1;
        }
        int sign = side == 0 ? 1 : -1;
        int mine = w.get(side == 0 ? "BID" : "ASK");
        int stock = w.get("STOCK") + sign;
        if (mine == 6 || Math.abs(stock) > w.get("LIMIT")) {
            return -3;
        }
        int price = w.get("FAIR") - sign * mine;
        try {
            w.cash = Math.subtractExact(w.cash, sign * Math.multiplyExact(price, w.get("SIZE")));
        } catch (ArithmeticException e) {
            return -15;
        }
        w.set.put("STOCK", stock);
        double p = price;
        double gap = p - w.middle;
        double kept = w.spread * 0.75;
        w.spread = kept + gap * gap * 0.25;
        w.middle += gap * 0.25;
        return stock + 100;
    }

    private long feed(int sign) {
        if (!in(sign, 0, 127)) {
            return -2;
        }
        if (text.length() == 100) {
            return -4;
        }
        text += (char) sign;
        return text.length();
    }

    private long read() {
        String told = text;
        text = "";
        List<String[]> orders = new ArrayList<>();
        Matcher m = WORD.matcher(told);
        int place = 0;
        while (true) {
            m.region(place, told.length());
            if (!m.lookingAt() || !"bid ask hit lift pull fair street".matches(".*\\b" + m.group(1) + "\\b.*")) {
                return -10 - place;
            }
            String form = m.group(1).equals("fair") ? "[0-9]{3,4}"
                : "bid ask street".contains(m.group(1)) ? "[0-9]" : "";
            if (!m.group(2).matches(form)) {
                return -10 - m.end(1);
            }
            orders.add(new String[] {m.group(1), m.group(2)});
            place = m.end();
            if (place == told.length()) {
                break;
            }
            if (told.charAt(place) != ';' || orders.size() == 12) {
                return -10 - place;
            }
            place++;
        }
        return orders.stream().filter(this::isDone).count();
    }

    private boolean isDone(String[] order) {
        int n = order[1].isEmpty() ? 0 : Integer.parseInt(order[1]);
        switch (order[0]) {
            case "bid": return quote(0, n) >= 0;
            case "ask": return quote(1, n) >= 0;
            case "hit": return trade(0) >= 0;
            case "lift": return trade(1) >= 0;
            case "fair": return set(0, n) >= 0;
            case "street": return street(n) >= 0;
            default: return quote(0, 6) >= 0 & quote(1, 6) >= 0;
        }
    }

    private String ticket() {
        int stock = w.get("STOCK");
        String pair = (w.get("BID") + "/" + w.get("ASK")).replace('6', '-');
        return String.join(" ", "" + stock, "" + w.cash, pair, stock == 0 ? "flat" : stock < 0 ? "short" : "long");
    }

    private long see(int s, int b, int a) {
        if (b == -1) {
            w.seen.clear();
            return 0;
        }
        if (!in(s, -8, 8) || !in(b, 0, 6) || !in(a, 0, 6)) {
            return -2;
        }
        if (w.seen.size() == 5) {
            return -4;
        }
        w.seen.add(new int[] {s, b, a});
        return w.seen.size();
    }

    private long fits(int what) {
        if (!in(what, 0, 1)) {
            return -1;
        }
        List<Integer> fines = new ArrayList<>();
        for (int fine = 0; fine <= 20; fine++) {
            Mind mind = new Mind(w.get("LIMIT"), fine, chances(List.of()), w.rule);
            boolean so = true;
            for (int[] seen : w.seen) {
                so = so && w.get("ROUNDS") > 0 && Math.abs(seen[0]) <= mind.limit
                        && mind.best(seen[0], w.get("ROUNDS"))[1] == seen[1]
                        && mind.best(seen[0], w.get("ROUNDS"))[2] == seen[2];
            }
            if (so) {
                fines.add(fine);
            }
        }
        return what == 0 ? fines.size() : fines.isEmpty() ? -5 : fines.get(0);
    }

    private long event(int what, int n) {
        if (what == -1) {
            w.events.clear();
            return 0;
        }
        if (!in(what, 0, 3)) {
            return -1;
        }
        int[][] spans = {{0, 99}, {1, 8}, {0, 8}, {0, 3}};
        if (!in(n, spans[what][0], spans[what][1])) {
            return -2;
        }
        if (w.events.size() == 8) {
            return -4;
        }
        w.events.add(new int[] {what, n});
        return w.events.size();
    }

    private long after() {
        int[] told = {w.get("FINE"), w.get("LIMIT"), w.get("ROUNDS")};
        List<Integer> emptied = new ArrayList<>();
        for (int[] event : w.events) {
            if (event[0] == 3) {
                emptied.add(event[1]);
            } else {
                told[event[0]] = event[1];
            }
        }
        return new Mind(told[1], told[0], chances(emptied), w.rule).best(0, told[2])[0];
    }

    private long taken(int b, int a, int part) {
        if (!in(b, 0, 6) || !in(a, 0, 6) || !in(part, 0, 1)) {
            return NO;
        }
        int above = chance(0, b, List.of()) + chance(1, a, List.of());
        int common = BigInteger.valueOf(above).gcd(BigInteger.valueOf(1000)).intValue();
        return (part == 0 ? above : 1000) / common;
    }

    private long judge(int side, int tape, int i) {
        if (!in(side, 0, 1) || !in(tape, 0, 5)) {
            return -1;
        }
        if (tapes[tape] != null && !(tapes[tape] instanceof byte[])) {
            return -12;
        }
        int limit = w.get("LIMIT");
        for (int k = 0; k <= 2 * limit; k++) {
            long told = i < 0 || i > 60 ? NO : peek(tape, i + k);
            if (told == NO) {
                return 100 + k;
            }
            if (told != ruled(k - limit)[side]) {
                return k;
            }
        }
        return -5;
    }

    private long tape(int tape, int sort, int n) {
        if (!in(tape, 0, 5)) {
            return -1;
        }
        if (!in(sort, -1, 4) || (sort >= 0 && n > 60)) {
            return -2;
        }
        try {
            Object[] rows = {null, null, null, null, null};
            if (sort >= 0) {
                rows = new Object[] {new byte[n], new short[n], new int[n], new long[n], new boolean[n]};
            }
            tapes[tape] = sort < 0 ? null : rows[sort];
            return 1;
        } catch (NegativeArraySizeException e) {
            return -14;
        }
    }

    private long item(int tape, int i, long v) {
        if (!in(tape, 0, 5)) {
            return -1;
        }
        Object row = tapes[tape];
        if (row == null) {
            return -11;
        }
        try {
            if (row instanceof byte[]) {
                ((byte[]) row)[i] = (byte) v;
            } else if (row instanceof short[]) {
                ((short[]) row)[i] = (short) v;
            } else if (row instanceof int[]) {
                ((int[]) row)[i] = (int) v;
            } else if (row instanceof long[]) {
                ((long[]) row)[i] = v;
            } else {
                ((boolean[]) row)[i] = v != 0;
            }
            return 1;
        } catch (ArrayIndexOutOfBoundsException e) {
            return -13;
        }
    }

    private long peek(int tape, int i) {
        if (!in(tape, 0, 5) || tapes[tape] == null || !in(i, 0, java.lang.reflect.Array.getLength(tapes[tape]) - 1)) {
            return NO;
        }
        if (tapes[tape] instanceof boolean[]) {
            return ((boolean[]) tapes[tape])[i] ? 1 : 0;
        }
        return java.lang.reflect.Array.getLong(tapes[tape], i);
    }

    private long shift(int tape, int i, int other, int j, int n) {
        if (!in(tape, 0, 5) || !in(other, 0, 5)) {
            return -1;
        }
        try {
            System.arraycopy(tapes[tape], i, tapes[other], j, n);
            return n;
        } catch (NullPointerException e) {
            return -11;
        } catch (ArrayStoreException e) {
            return -12;
        } catch (IndexOutOfBoundsException e) {
            return -13;
        }
    }
}
