import java.util.LinkedHashMap;
import java.util.Map;

/** Calls of the face by their names, and what their arguments may be. */
final class Calls {
    private static final int[] SIDE = {0, 1};
    private static final int[] WHAT = {0, 1};
    private static final int[] STOCK = {-8, 8};
    private static final int[] ROUNDS = {0, 8};
    private static final int[] QUOTE = {0, 6};
    private static final int[] RIVAL = {-1, 7};
    private static final int[] DECK = {0, 2};
    private static final int[] PLACE = {0, 3};
    private static final int[] TAPE = {0, 5};
    private static final int[] ITEM = {0, 20};

    /** By the names of the calls: least and most of each argument. */
    static final Map<String, int[][]> SPANS = new LinkedHashMap<>();

    static {
        put("set", new int[] {0, 5}, new int[] {0, 100});
        put("told", new int[] {0, 11});
        put("odds", SIDE, new int[] {0, 5}, new int[] {0, 1000});
        put("rival", new int[] {0, 3}, QUOTE, QUOTE);
        put("theirs", RIVAL, SIDE, new int[] {0, 5});
        put("lay", DECK, PLACE, RIVAL);
        put("at", DECK, PLACE);
        put("street", DECK);
        put("copy", DECK, DECK);
        put("chance", SIDE, QUOTE);
        put("value", STOCK, ROUNDS);
        put("best", STOCK, ROUNDS, WHAT);
        put("rule", STOCK, QUOTE, QUOTE);
        put("adopt", new int[] {1, 8});
        put("worth", STOCK, ROUNDS, WHAT);
        put("ruled", STOCK, WHAT);
        put("reserve", STOCK, ROUNDS, WHAT);
        put("meeting", STOCK, ROUNDS);
        put("middle", new int[] {0, 3});
        put("quote", SIDE, QUOTE);
        put("trade", SIDE);
        put("feed", new int[] {0, 127});
        put("read");
        put("ticket", new int[] {0, 24});
        put("see", STOCK, new int[] {-1, 6}, QUOTE);
        put("fits", WHAT);
        put("event", new int[] {-1, 3}, new int[] {0, 9});
        put("after");
        put("taken", QUOTE, QUOTE, WHAT);
        put("judge", SIDE, TAPE, ITEM);
        put("image");
        put("undo");
        put("count", new int[] {0, 3});
        put("tape", TAPE, new int[] {-1, 4}, new int[] {0, 60});
        put("item", TAPE, ITEM, new int[] {-2, 9});
        put("peek", TAPE, ITEM);
        put("shift", TAPE, ITEM, TAPE, ITEM, new int[] {0, 12});
    }

    private Calls() {
    }

    private static void put(String call, int[]... spans) {
        SPANS.put(call, spans);
    }

    static long ask(QuoteMind x, String call, long[] g) {
        switch (call) {
            case "set": return x.set((int) g[0], (int) g[1]);
            case "told": return x.told((int) g[0]);
            case "odds": return x.odds((int) g[0], (int) g[1], (int) g[2]);
            case "rival": return x.rival((int) g[0], (int) g[1], (int) g[2]);
            case "theirs": return x.theirs((int) g[0], (int) g[1], (int) g[2]);
            case "lay": return x.lay((int) g[0], (int) g[1], (int) g[2]);
            case "at": return x.at((int) g[0], (int) g[1]);
            case "street": return x.street((int) g[0]);
            case "copy": return x.copy((int) g[0], (int) g[1]);
            case "chance": return x.chance((int) g[0], (int) g[1]);
            case "value": return x.value((int) g[0], (int) g[1]);
            case "best": return x.best((int) g[0], (int) g[1], (int) g[2]);
            case "rule": return x.rule((int) g[0], (int) g[1], (int) g[2]);
            case "adopt": return x.adopt((int) g[0]);
            case "worth": return x.worth((int) g[0], (int) g[1], (int) g[2]);
            case "ruled": return x.ruled((int) g[0], (int) g[1]);
            case "reserve": return x.reserve((int) g[0], (int) g[1], (int) g[2]);
            case "meeting": return x.meeting((int) g[0], (int) g[1]);
            case "middle": return x.middle((int) g[0]);
            default: return askMore(x, call, g);
        }
    }

    private static long askMore(QuoteMind x, String call, long[] g) {
        switch (call) {
            case "quote": return x.quote((int) g[0], (int) g[1]);
            case "trade": return x.trade((int) g[0]);
            case "feed": return x.feed((int) g[0]);
            case "read": return x.read();
            case "ticket": return x.ticket((int) g[0]);
            case "see": return x.see((int) g[0], (int) g[1], (int) g[2]);
            case "fits": return x.fits((int) g[0]);
            case "event": return x.event((int) g[0], (int) g[1]);
            case "after": return x.after();
            case "taken": return x.taken((int) g[0], (int) g[1], (int) g[2]);
            case "judge": return x.judge((int) g[0], (int) g[1], (int) g[2]);
            case "image": return x.image();
            case "undo": return x.undo();
            case "count": return x.count((int) g[0]);
            case "tape": return x.tape((int) g[0], (int) g[1], (int) g[2]);
            case "item": return x.item((int) g[0], (int) g[1], g[2]);
            case "peek": return x.peek((int) g[0], (int) g[1]);
            case "shift": return x.shift((int) g[0], (int) g[1], (int) g[2], (int) g[3], (int) g[4]);
            default: throw new IllegalArgumentException(call);
        }
    }
}
