import java.util.ArrayList;
import java.util.Arrays;
import java.util.List;

/** Long runs of calls, the same ones each time, asked of the program and of the second reading of the document. */
public final class OracleTest {
    private static final int CALLS_OF_AN_OBJECT = 512;
    private static final String[] ORDERS = {"bid0", "bid1", "bid3", "bid6", "bid7", "ask0", "ask2", "ask5", "ask9",
        "hit", "hit", "lift", "lift", "pull", "fair100", "fair099", "fair0099", "fair0100", "fair999", "fair9999",
        "street0", "street1", "street2", "street3"};
    private static final String[] SPOILT = {"", "bid", "bid12", "hit1", "fair12", "fair12345", "fair", "sell", "bi",
        "bids1", "Bid1", "bid 1", " ", "1", "street", "street10", "pull0", "ask1x", "lift ", "{", "`", "ask:", "ask/"};

    private final Due due = new Due("OracleTest");
    private final List<String> names = new ArrayList<>(Calls.SPANS.keySet());
    private long seed;
    private QuoteMind mind;
    private Oracle oracle;
    private int asked;
    private final StringBuilder trail = new StringBuilder();

    public static void main(String[] args) {
        OracleTest test = new OracleTest();
        for (int run = 0; run < 160 && test.due.isAllRight(); run++) {
            test.run(run);
        }
        test.due.end();
    }

    private int below(int n) {
        seed = seed * 6364136223846793005L + 1442695040888963407L;
        return (int) ((seed >>> 33) % n);
    }

    private void run(int run) {
        seed = run * 7919L + 17;
        below(1);
        mind = new QuoteMind();
        oracle = new Oracle();
        asked = 0;
        trail.setLength(0);
        settle(run);
        while (asked < CALLS_OF_AN_OBJECT && due.isAllRight()) {
            step(run);
        }
    }

    /** Every second run begins with a market that is not as at first. */
    private void settle(int run) {
        if (run % 2 == 0) {
            return;
        }
        ask("set", 1, 1 + below(8));
        ask("set", 2, below(9));
        ask("set", 3, below(run % 3 == 0 ? 100 : 6));
        ask("set", 5, 1 + below(run % 3 == 0 ? 1000000 : 9));
        for (int i = 0; i < 12; i++) {
            ask("odds", below(2), below(6), below(1001));
        }
        for (int i = 0; i < 7; i++) {
            ask("rival", below(4), below(7), below(7));
            ask("lay", below(3), below(4), below(7));
        }
        ask("street", below(3));
        ask("image");
    }

    private void step(int run) {
        int luck = below(60);
        if (luck == 0) {
            feedAndRead();
        } else if (luck == 1) {
            tellRule();
        } else if (luck == 2) {
            seeBest();
        } else if (luck == 7) {
            tellEvents();
        } else if (luck < 6) {
            ask("quote", below(2), below(5));
            ask("trade", below(2));
        } else if (luck == 6 && run % 4 != 0) {
            ask("set", below(6), new int[] {100, 9999, 1, 8, 0, 99, 1000000}[below(7)]);
        } else {
            askAny();
        }
    }

    private void askAny() {
        String call = names.get(below(names.size()));
        if (call.equals("undo") && below(3) != 0) {
            return;
        }
        int[][] spans = Calls.SPANS.get(call);
        long[] g = new long[spans.length];
        for (int i = 0; i < g.length; i++) {
            g[i] = any(spans[i][0], spans[i][1]);
        }
        if (call.equals("item")) {
            g[2] = anyItem((int) g[2]);
        }
        ask(call, g);
    }

    private long any(int least, int most) {
        int luck = below(40);
        switch (luck) {
            case 0: return least - 1;
            case 1: return most + 1;
            case 2: return below(2) == 0 ? Integer.MIN_VALUE : Integer.MAX_VALUE;
            case 3: return below(2) == 0 ? least : most;
            default: return least + below(most - least + 1);
        }
    }

    private long anyItem(int small) {
        long[] wide = {small, small, 127, 128, 255, 256, 32767, 32768, 65535, 65536, 1L << 31, 1L << 32, (1L << 32) - 1,
            Long.MIN_VALUE, Long.MAX_VALUE, -129};
        return wide[below(wide.length)];
    }

    private void feedAndRead() {
        StringBuilder text = new StringBuilder();
        int orders = below(8) == 0 ? 11 + below(3) : 1 + below(6);
        for (int i = 0; i < orders; i++) {
            text.append(i == 0 ? "" : ";").append(ORDERS[below(ORDERS.length)]);
        }
        int luck = below(3);
        if (luck == 0) {
            text.insert(below(text.length() + 1), SPOILT[below(SPOILT.length)]);
        } else if (luck == 1 && below(2) == 0) {
            text.append(";").append(SPOILT[below(SPOILT.length)]);
        }
        for (int i = 0; i < text.length(); i++) {
            ask("feed", text.charAt(i));
        }
        ask("read");
        ask("told", 10);
        ask("told", 11);
    }

    /** A row of bytes that is as THE RULE is, or nearly so. */
    private void tellRule() {
        int side = below(2);
        int limit = (int) Calls.ask(mind, "told", new long[] {1});
        asked++;
        int from = below(4);
        ask("tape", 0, 0, Math.max(0, from + 2 * limit + 1 - below(3) + below(3)));
        for (int s = -limit; s <= limit && due.isAllRight(); s++) {
            if (asked + 2 >= CALLS_OF_AN_OBJECT) {
                return;
            }
            long told = oracle.answer("ruled", new long[] {s, side});
            ask("item", 0, from + s + limit, below(30) == 0 ? told + 1 : told);
        }
        ask("judge", side, 0, from);
    }

    /** SEEN is as BEST is with a FINE that may be another one. */
    private void seeBest() {
        ask("see", 0, -1, 0);
        long rounds = Calls.ask(mind, "told", new long[] {2});
        asked++;
        for (int i = 0; i <= below(3) && asked + 8 < CALLS_OF_AN_OBJECT; i++) {
            int s = below(9) - 4;
            long b = oracle.answer("best", new long[] {s, rounds, 0});
            long a = oracle.answer("best", new long[] {s, rounds, 1});
            if (b >= 0 && a >= 0) {
                ask("see", s, b, a);
            }
        }
        ask("fits", 0);
        ask("fits", 1);
    }

    /** RIVALS leave THE STREET, and more. */
    private void tellEvents() {
        ask("event", -1, 0);
        ask("after");
        long street = oracle.answer("told", new long[] {6});
        for (int place = 0; place < 4; place++) {
            ask("lay", street, place, below(8));
        }
        ask("event", 3, below(4));
        for (int i = below(3); i > 0; i--) {
            int what = below(4);
            ask("event", what, what == 3 ? below(4) : 1 + below(8));
        }
        ask("after");
    }

    private void ask(String call, long... g) {
        if (asked >= CALLS_OF_AN_OBJECT || !due.isAllRight()) {
            return;
        }
        asked++;
        long want = oracle.answer(call, g.clone());
        long got = Calls.ask(mind, call, g);
        trail.append(' ').append(call).append(Arrays.toString(g)).append('=').append(want);
        due.is(call + Arrays.toString(g), got, want);
        if (got != want) {
            System.out.println("behind:" + trail);
        }
    }
}
