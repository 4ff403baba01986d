import java.io.IOException;

/** The boundary cases that the document's Terms, Answers and Details name: each sentence has an edge of its own. */
public final class EdgesOfTermsTest {
    private static final Due DUE = new Due("EdgesOfTermsTest");
    private static final String TWELVE = "hit;hit;hit;hit;hit;hit;hit;hit;hit;hit;hit;hit";
    private static final long ONE = Double.doubleToLongBits(1.0);

    private static Edges edges;

    public static void main(String[] args) throws IOException {
        edges = new Edges(DUE);
        use();
        edges.section("## Terms\n", "==== 2 ");
        settings();
        odds();
        rivals();
        theirs();
        decks();
        chances();
        values();
        bestPairs();
        rules();
        edges.section("==== 2 ", "==== 3 ");
        floats();
        truth();
        trades();
        smoothed();
        texts();
        faultsOfOrders();
        ticket();
        edges.section("==== 3 ", "Answers: ");
        seen();
        eventsAndTaken();
        imageAndTapes();
        judged();
        hostsRefusals();
        edges.section("Answers: ", "Details. ");
        answers();
        edges.section("Details. ", "The constants: ");
        details();
        edges.end();
        DUE.end();
    }

    private static void edge(String quotation, String... rows) {
        edges.edge(quotation, rows);
    }

    private static String bits(float v) {
        return "" + Float.floatToIntBits(v);
    }

    private static String bits(double v) {
        return "" + Double.doubleToLongBits(v);
    }

    private static void use() {
        edges.section("An object is used", "## The public face");
        edge("for at most 512 calls after it has been made", "202 x set 3 9", "told 3 = 9");
        edges.noEdge("what later calls answer is free");
        QuoteMind x = new QuoteMind();
        for (int i = 1; i < 512; i++) {
            DUE.is("what it is: call " + i, x.feed(i % 128), i <= 100 ? i : -4);
        }
        DUE.is("what it is: call 512", x.read(), -10);
    }

    private static void settings() {
        edge("FAIR (100 .. 9999; 1000 at first)", "told 0 = 1000", "set 0 99 = -2", "set 0 10000 = -2", "set 0 min = -2",
                "set 0 max = -2", "told 0 = 1000", "set 0 100 = 1000", "set 0 9999 = 100", "told 0 = 9999");
        edge("LIMIT (1 .. 8; 4)", "told 1 = 4", "set 1 0 = -2", "set 1 -1 = -2", "set 1 9 = -2", "value 4 0 = -32000000",
                "value 5 0 = NO", "set 1 1 = 4", "value 1 0 = -2000000", "value 2 0 = NO", "value -2 0 = NO",
                "set 1 8 = 1", "value -8 0 = -128000000", "value -9 0 = NO", "value 9 0 = NO");
        edge("ROUNDS (0 .. 8; 4)", "told 2 = 4", "set 2 -1 = -2", "set 2 9 = -2", "set 2 0 = 4", "after = 0",
                "set 2 8 = 0", "told 2 = 8");
        edge("FINE (0 .. 99; 2)", "told 3 = 2", "set 3 -1 = -2", "set 3 100 = -2", "set 3 0 = 2", "value 4 0 = 0",
                "set 3 99 = 0", "value 4 0 = -1584000000");
        edge("RISK (0 .. 99; 5)", "told 4 = 5", "set 4 -1 = -2", "set 4 100 = -2", "reserve 8 8 1 = 997", "set 4 0 = 5",
                "reserve 8 8 1 = 1000", "set 4 99 = 0", "reserve 8 8 1 = 937", "reserve -8 8 1 = 1063");
    }

    private static void odds() {
        edge("ODDS (0 .. 1000, thousandths)", "odds 0 0 -1 = -2", "odds 0 0 1001 = -2", "odds 1 5 min = -2",
                "odds 1 5 max = -2", "odds 0 0 0 = 600", "chance 0 0 = 0", "odds 0 0 1000 = 0", "chance 0 0 = 1000");
        edge("by side (0 BID, 1 ASK) and distance 0 .. 5", "odds -1 0 0 = -1", "odds 2 0 0 = -1", "odds 0 -1 0 = -1",
                "odds 1 6 0 = -1", "odds min 0 0 = -1", "odds 0 max 0 = -1");
        edge("(at first 600, 400, 250, 120, 50, 10, both)", "odds 0 0 7 = 600", "odds 0 1 7 = 400", "odds 0 2 7 = 250",
                "odds 0 3 7 = 120", "odds 0 4 7 = 50", "odds 0 5 7 = 10", "odds 1 0 8 = 600", "odds 1 1 8 = 400",
                "odds 1 2 8 = 250", "odds 1 3 8 = 120", "odds 1 4 8 = 50", "odds 1 5 8 = 10", "odds 0 5 9 = 7");
        edge("of distance 6 (no quote) always 0", "chance 0 6 = 0", "odds 0 6 1000 = -1", "odds 0 5 1000 = 10",
                "odds 1 5 1000 = 10", "chance 0 6 = 0", "chance 1 6 = 0", "taken 6 6 0 = 0", "taken 5 6 0 = 1");
    }

    private static void rivals() {
        edge("RIVALS 0 .. 7, as they come", "told 7 = 0", "theirs 0 0 0 = -1", "rival 0 3 0 = 0", "rival 0 0 0 = 1",
                "rival 0 0 0 = 2", "rival 0 0 0 = 3", "rival 0 0 0 = 4", "rival 0 0 0 = 5", "rival 0 0 0 = 6",
                "theirs 7 0 0 = -1", "rival 0 4 0 = 7", "theirs 7 0 0 = 4", "theirs 0 0 0 = 3", "theirs 8 0 0 = -1",
                "rival 0 0 0 = -4", "told 7 = 8");
        edge("0 STILL, 1 KEEN, 2 SHY, each a RIVAL, 3 KEENER under KEEN", "rival -1 0 0 = -1", "rival 4 0 0 = -1",
                "rival min 0 0 = -1", "rival 0 2 2 = 0", "rival 1 2 2 = 1", "rival 2 2 2 = 2", "rival 3 2 2 = 3",
                "theirs 0 0 5 = 2", "theirs 1 0 5 = 4", "theirs 2 0 5 = 6", "theirs 3 0 5 = 2");
        edge("each with x and y (0 .. 6)", "rival 0 -1 0 = -2", "rival 1 7 0 = -2", "rival 2 0 -1 = -2",
                "rival 3 0 7 = -2", "rival 0 min 0 = -2", "rival 0 0 max = -2", "told 7 = 0", "rival 0 0 6 = 0",
                "rival 0 6 0 = 1", "theirs 0 0 3 = 0", "theirs 0 1 3 = 6", "theirs 1 0 3 = 6", "theirs 1 1 3 = 0");
    }

    private static void theirs() {
        edge("distance of a RIVAL by side, mine being d (0 .. 5)", "rival 1 0 0 = 0", "theirs 0 0 -1 = -2",
                "theirs 0 0 0 = 0", "theirs 0 0 5 = 4", "theirs 0 0 6 = -2", "theirs 0 1 min = -2",
                "theirs 0 1 max = -2", "theirs 0 -1 0 = -1", "theirs 0 2 0 = -1");
        edge("STILL x (BID), y (ASK)", "rival 0 0 6", "theirs 0 0 0 = 0", "theirs 0 0 5 = 0", "theirs 0 1 0 = 6",
                "theirs 0 1 5 = 6");
        edge("KEEN 1 less than d (0 at least)", "rival 1 6 6", "theirs 0 0 0 = 0", "theirs 0 0 1 = 0",
                "theirs 0 0 2 = 1", "theirs 0 1 0 = 0", "theirs 0 1 5 = 4");
        edge("SHY 1 more than d (6 at most)", "rival 2 0 0", "theirs 0 0 0 = 1", "theirs 0 0 4 = 5", "theirs 0 0 5 = 6",
                "theirs 0 1 5 = 6");
        edge("KEENER x less than what a KEEN one has (0 at least)", "rival 3 0 6", "rival 3 3 6", "rival 3 4 0",
                "rival 3 6 0", "theirs 0 0 0 = 0", "theirs 0 0 1 = 0", "theirs 0 1 5 = 4", "theirs 1 0 4 = 0",
                "theirs 1 0 5 = 1", "theirs 2 0 5 = 0", "theirs 2 0 4 = 0", "theirs 3 1 5 = 0", "theirs 3 0 0 = 0");
    }

    private static void decks() {
        edge("DECKS 0 .. 2", "at -1 0 = -1", "at 0 0 = -5", "at 2 0 = -5", "at 3 0 = -1", "lay 3 0 -1 = -1",
                "lay -1 0 -1 = -1", "copy 3 0 = -1", "copy 0 3 = -1");
        edge("each of 4 places that hold a RIVAL or nothing (at first)", "at 0 0 = -5", "at 0 3 = -5", "at 1 0 = -5",
                "at 1 3 = -5", "at 2 0 = -5", "at 2 3 = -5", "at 0 -1 = -13", "at 0 4 = -13", "rival 1 0 0 = 0",
                "lay 1 4 0 = -13", "lay 1 -1 0 = -13", "lay 1 3 0 = -5", "at 1 3 = 0", "lay 1 3 -1 = 0", "at 1 3 = -5");
        edge("DECK 0 takes any RIVAL", "rival 0 0 0", "rival 1 0 0", "rival 2 0 0", "rival 3 0 0", "lay 0 0 0 = -5",
                "lay 0 1 1 = -5", "lay 0 2 2 = -5", "lay 0 3 3 = -5");
        edge("DECK 1 KEEN ones (and KEENER)", "rival 0 0 0", "rival 1 0 0", "rival 2 0 0", "rival 3 0 0",
                "lay 1 0 0 = -12", "lay 1 0 2 = -12", "at 1 0 = -5", "lay 1 0 1 = -5", "lay 1 0 3 = 1", "lay 1 0 0 = -12",
                "at 1 0 = 3", "lay 1 0 -1 = 3");
        edge("DECK 2 SHY ones", "rival 0 0 0", "rival 1 0 0", "rival 2 0 0", "rival 3 0 0", "lay 2 3 0 = -12",
                "lay 2 3 1 = -12", "lay 2 3 3 = -12", "lay 2 3 2 = -5", "lay 2 3 3 = -12", "at 2 3 = 2");
        edge("STREET: one of the DECKS (0 at first)", "told 6 = 0", "street 3 = -1", "street -1 = -1", "street min = -1",
                "street 2 = 0", "street 2 = 2", "street 0 = 2", "told 6 = 0");
    }

    private static void chances() {
        edge("ODDS, and then place by place of THE STREET (those that hold a RIVAL)", "rival 0 1 6", "rival 1 0 0",
                "odds 0 1 11", "chance 0 1 = 11", "lay 0 3 0 = -5", "chance 0 1 = 8", "lay 0 0 1 = -5", "chance 0 1 = 3",
                "lay 0 0 0 = 1", "lay 0 3 1 = 0", "chance 0 1 = 4", "lay 1 0 1 = -5", "chance 0 1 = 4", "street 1 = 0",
                "chance 0 1 = 5");
        edge("half of it (cut), if THEIRS is less than d", "rival 0 0 0", "odds 0 1 1", "lay 0 0 0", "chance 0 1 = 0",
                "odds 0 1 0 = 1", "chance 0 1 = 0", "odds 0 1 3 = 0", "chance 0 1 = 1", "odds 0 1 1000 = 3",
                "chance 0 1 = 500", "odds 0 1 999 = 1000", "chance 0 1 = 499", "lay 0 1 0", "chance 0 1 = 249",
                "lay 0 2 0", "chance 0 1 = 124", "lay 0 3 0", "chance 0 1 = 62");
        edge("three quarters of it (cut), if THEIRS is d", "rival 0 1 1", "odds 0 1 1", "lay 0 0 0", "chance 0 1 = 0",
                "odds 0 1 0 = 1", "chance 0 1 = 0", "odds 0 1 2 = 0", "chance 0 1 = 1", "odds 0 1 3 = 2",
                "chance 0 1 = 2", "odds 0 1 1000 = 3", "chance 0 1 = 750", "lay 0 1 0", "chance 0 1 = 562", "lay 0 2 0",
                "chance 0 1 = 421", "lay 0 3 0", "chance 0 1 = 315", "chance 0 0 = 600");
        edge("CHANCE of 6 is 0", "rival 0 6 6", "4 x lay 0 0 0", "odds 0 5 1000", "chance 0 5 = 1000", "chance 0 6 = 0",
                "chance 1 6 = 0", "chance 0 7 = -2", "chance 0 -1 = -2", "street 1", "chance 1 6 = 0");
    }

    private static void values() {
        edge("VALUE of a STOCK s (-LIMIT .. LIMIT) with t ROUNDS to go, in millionths", "idle", "value 4 8 = -32000000",
                "value -4 8 = -32000000", "value 5 8 = NO", "value -5 0 = NO", "value 0 -1 = NO", "value 0 9 = NO",
                "value min 0 = NO", "value max 0 = NO", "value 0 min = NO", "value 0 max = NO");
        edge("t 0: -1000000 times FINE times s times s", "value 0 0 = 0", "value 1 0 = -2000000", "set 1 8", "set 3 99",
                "value 8 0 = -6336000000", "value -8 0 = -6336000000", "set 3 0", "value 8 0 = 0", "value 0 0 = 0");
        edge("the greatest of all pairs of a BID b and an ASK a (0 .. 6 each", "idle", "set 3 0", "odds 0 5 1000",
                "best 0 1 0 = 5", "value 0 1 = 5000000", "odds 0 5 0", "odds 0 0 1000", "best 0 1 0 = 0",
                "value 0 1 = 0", "set 3 99", "odds 0 1 1000", "odds 0 2 1000", "odds 0 3 1000", "odds 0 4 1000",
                "odds 0 5 1000", "best 1 1 0 = 6", "value 1 1 = -99000000");
        edge("b is 6 where s is LIMIT, a is 6 where s is -LIMIT", "set 1 1", "best 1 1 0 = 6", "best 1 1 1 = 0",
                "best -1 1 0 = 0", "best -1 1 1 = 6", "value 1 1 = -800000", "value -1 1 = -800000", "odds 0 5 1000",
                "odds 1 5 1000", "best 1 1 0 = 6", "best -1 1 1 = 6", "best 1 1 1 = 5", "value 1 1 = 5000000");
        edge("B times A times (VALUE of s, t - 1, and (b and a) millions)", "idle", "odds 0 3 1000", "odds 1 4 1000",
                "value 0 1 = 7000000", "value 0 8 = 56000000", "best 0 8 0 = 3", "best 0 8 1 = 4");
        edge("B times (1000 - A) times (that of s + 1, and b millions)", "idle", "odds 0 3 1000", "value 0 1 = 1000000",
                "value 3 1 = -18000000", "value -3 1 = -5000000", "value 4 1 = -32000000");
        edge("(1000 - B) times A times (that of s - 1, and a millions)", "idle", "odds 1 3 1000", "value 0 1 = 1000000",
                "value -3 1 = -18000000", "value 3 1 = -5000000", "value -4 1 = -32000000");
        edge("all together by 1000000, rounded down", "idle", "set 1 1", "set 3 0", "odds 1 1 1", "value 0 2 = 1999",
                "value 0 3 = 2997", "value 0 4 = 3994", "set 3 1", "odds 1 1 0", "odds 0 1 1", "value -1 1 = -998000",
                "value -1 2 = -996002", "value -1 3 = -994006");
        edge("(What has a factor 0 counts as 0.)", "idle", "value 3 8 = -18000000", "odds 0 5 1000", "set 1 1",
                "value 0 1 = 3000000", "value 1 1 = -2000000", "value -1 1 = 5000000", "value -1 2 = 8000000");
    }

    private static void bestPairs() {
        edge("BEST: the first such pair (b, then a) of the greatest", "idle", "best 0 1 0 = 0", "best 0 1 1 = 0",
                "best 4 1 0 = 6", "best 4 1 1 = 0", "best -4 1 0 = 0", "best -4 1 1 = 6", "set 1 1", "odds 0 0 1",
                "odds 0 1 12", "odds 1 0 5", "odds 1 2 250", "value 0 1 = 0", "best 0 1 0 = 1", "best 0 1 1 = 2");
    }

    private static void rules() {
        edge("by STOCK -8 .. 8 a BID and an ASK (0 .. 6; 6 at first)", "ruled -8 0 = 6", "ruled -8 1 = 6",
                "ruled 0 0 = 6", "ruled 8 1 = 6", "ruled 9 0 = -2", "ruled -9 0 = -2", "rule 9 0 0 = -2",
                "rule -9 0 0 = -2", "rule 0 -1 0 = -2", "rule 0 7 0 = -2", "rule 0 0 -1 = -2", "rule 0 0 7 = -2",
                "rule 8 0 6 = 66", "rule -8 6 0 = 66", "ruled 8 0 = 0", "ruled 8 1 = 6", "ruled -8 0 = 6",
                "ruled -8 1 = 0");
        edge("by THE RULE's pair (6 where LIMIT forbids a quote)", "set 1 1", "rule 1 0 0 = 66", "rule -1 0 0 = 66",
                "worth 1 1 0 = -800000", "worth -1 1 0 = -800000", "odds 0 0 1000", "worth 1 1 0 = -800000",
                "worth -1 1 0 = 0", "ruled 1 0 = 0", "set 1 2", "worth 1 1 0 = -4400000");
        edge("LOSS: VALUE less WORTH", "worth 0 1 0 = 0", "worth 0 1 1 = 297600", "worth 4 0 1 = 0", "adopt 1 = 9",
                "worth 0 1 1 = 0", "worth -4 1 1 = 0", "rule 0 6 6 = 33", "worth 0 1 1 = 297600");
    }

    private static void floats() {
        edge("FLOATS and DOUBLES are as the host has them, each step rounded as it comes", "set 4 7", "set 0 9999",
                "reserve 3 7 0 = " + bits(9999f - (3f * (7f / 100f)) * 7f), "reserve -5 8 0 = "
                + bits(9999f - (-5f * (7f / 100f)) * 8f), "set 0 100", "reserve 7 7 0 = " + bits(100f - (7f * (7f / 100f)) * 7f));
        edge("the float of FAIR, less the float ((float of s) times ((float of RISK) by 100.0f)) times (float of t)",
                "reserve 0 8 0 = " + bits(1000f), "reserve 8 0 0 = " + bits(1000f), "reserve -8 0 0 = " + bits(1000f),
                "reserve 1 1 0 = " + bits(1000f - 5f / 100f), "set 0 100", "set 4 99",
                "reserve 8 8 0 = " + bits(100f - (8f * (99f / 100f)) * 8f), "set 0 9999",
                "reserve -8 8 0 = " + bits(9999f - (-8f * (99f / 100f)) * 8f), "reserve 9 8 0 = -2", "reserve 8 9 0 = -2");
        edge("RESERVE and HALF: that plus 0.5f, cast to an int", "set 4 50", "reserve 1 1 1 = 1000", "set 4 51",
                "reserve 1 1 1 = 999", "set 4 49", "reserve 1 1 1 = 1000", "reserve -1 1 1 = 1000", "set 4 50",
                "reserve -1 1 1 = 1001", "set 0 100", "set 4 99", "reserve 8 8 1 = 37");
        edge("how likely the STOCK comes to a bound (LIMIT or -LIMIT) by BEST", "set 1 1", "meeting 0 1 = "
                + bits(((0.12 * 0.12) * 0.0) + ((0.12 * (1.0 - 0.12)) * 1.0) + (((1.0 - 0.12) * 0.12) * 1.0)
                        + (((1.0 - 0.12) * (1.0 - 0.12)) * 0.0)), "idle", "meeting 0 8 = 0", "meeting 2 0 = NO");
        edge("1.0, if it is at one; else 0.0, if t is 0", "meeting 4 0 = " + ONE, "meeting -4 0 = " + ONE,
                "meeting 4 8 = " + ONE, "meeting -4 8 = " + ONE, "meeting 3 0 = 0", "meeting -3 0 = 0", "meeting 0 0 = 0",
                "set 1 1", "meeting 1 0 = " + ONE, "meeting 0 0 = 0", "meeting 2 0 = NO");
        edge("with u and v (CHANCES of BEST at s, t as doubles, by 1000.0)", "idle", "set 3 0", "set 1 1", "odds 0 4 1",
                "meeting 0 1 = " + bits(1 / 1000.0), "odds 0 4 999", "meeting 0 1 = " + bits(999 / 1000.0), "odds 0 4 1000",
                "meeting 0 1 = " + ONE, "odds 1 3 1000", "meeting 0 8 = 0");
        edge("added from left to right, M of t - 1", "idle", "set 3 0", "odds 0 5 1000", "meeting 0 3 = 0",
                "meeting 0 4 = " + ONE, "meeting 0 8 = " + ONE, "meeting 3 1 = " + ONE, "meeting 2 1 = 0",
                "meeting -3 6 = 0", "meeting -3 7 = " + ONE);
        meetingFromLeftToRight();
    }

    /** Of these CHANCES another order of adding has another sum. */
    private static void meetingFromLeftToRight() {
        double u = 300 / 1000.0;
        double v = 200 / 1000.0;
        double one = ((u * v) * 0.0) + ((u * (1.0 - v)) * 1.0) + (((1.0 - u) * v) * 0.0) + (((1.0 - u) * (1.0 - v)) * 0.0);
        double nought = 0.0;
        double two = ((u * v) * one) + ((u * (1.0 - v)) * 1.0) + (((1.0 - u) * v) * nought)
                + (((1.0 - u) * (1.0 - v)) * one);
        double other = ((u * v) * one) + (((1.0 - u) * (1.0 - v)) * one) + ((u * (1.0 - v)) * 1.0)
                + (((1.0 - u) * v) * nought);
        DUE.holds("adding in another order is another sum", two != other);
        edge("added from left to right", "idle", "set 3 0", "set 1 2", "odds 0 5 300", "odds 1 4 200",
                "meeting 1 1 = " + bits(one), "meeting 1 2 = " + bits(two));
    }

    private static void truth() {
        edge("my BID, my ASK (0 .. 6; 6 at first)", "told 8 = 6", "told 9 = 6", "quote 0 -1 = -2", "quote 0 7 = -2",
                "quote 1 -1 = -2", "quote 1 7 = -2", "quote 0 0 = 6", "quote 1 0 = 6", "quote 0 6 = 0", "quote 1 5 = 0",
                "told 8 = 6", "told 9 = 5");
        edge("SIZE (1 .. 1000000; 1 at first)", "told 5 = 1", "set 5 0 = -2", "set 5 -1 = -2", "set 5 1000001 = -2",
                "set 5 1000000 = 1", "set 5 1 = 1000000", "quote 0 0", "trade 0 = 101", "told 11 = -1000");
        edge("STOCK (0 at first; -LIMIT .. LIMIT when a trade is done)", "told 10 = 0", "quote 0 0", "quote 1 0",
                "trade 0 = 101", "trade 0 = 102", "trade 0 = 103", "trade 0 = 104", "trade 0 = -3", "told 10 = 4",
                "trade 1 = 103", "7 x trade 1", "told 10 = -4", "trade 1 = -3", "trade 0 = 97", "set 1 8", "11 x trade 0",
                "told 10 = 8", "trade 0 = -3");
        edge("CASH (an int; 0 at first)", "told 11 = 0", "quote 0 0", "set 0 2147", "set 5 1000000", "trade 0 = 101",
                "set 0 483", "set 5 1000", "trade 0 = 102", "set 0 324", "set 5 2", "trade 0 = 103", "told 11 = -2147483648",
                "set 0 100", "set 5 1", "trade 0 = -15", "told 11 = -2147483648");
        edge("MIDDLE (a double; 1000.0 at first), SPREAD (a double; 0.0)", "middle 0 = " + bits(1000.0), "middle 1 = 0",
                "middle 2 = 1000", "middle 3 = 0", "middle 4 = NO", "middle -1 = NO", "set 0 9999", "middle 2 = 1000");
    }

    private static void trades() {
        edge("HIT: somebody sells to me at FAIR less BID: STOCK is 1 more, CASH less by that PRICE times SIZE",
                "set 0 100", "quote 0 5", "set 5 1000000", "trade 0 = 101", "told 11 = -95000000", "quote 0 0",
                "trade 0 = 102", "told 11 = -195000000");
        edge("LIFT: somebody buys at FAIR and ASK: STOCK 1 less, CASH more", "set 0 9999", "quote 1 5", "set 5 200000",
                "trade 1 = 99", "told 11 = 2000800000", "quote 1 0", "set 5 1", "trade 1 = 98", "told 11 = 2000809999");
        edge("STATE: there is no such quote", "trade 0 = -3", "trade 1 = -3", "quote 0 5", "trade 1 = -3",
                "trade 0 = 101", "quote 1 5", "quote 0 6", "trade 0 = -3", "trade 1 = 100");
        edge("STOCK would be beyond LIMIT then (as it may be already, LIMIT being less)", "quote 0 0", "quote 1 0",
                "set 1 8", "5 x trade 0", "set 1 5", "trade 0 = -3", "set 1 3", "trade 0 = -3", "trade 1 = -3",
                "told 10 = 5", "set 1 4", "trade 1 = 104", "set 1 8", "8 x trade 1", "told 10 = -4", "set 1 2",
                "trade 0 = -3", "trade 1 = -3", "set 1 3", "trade 0 = 97");
        edge("OVER (-15): the PRICE times SIZE", "quote 0 0", "quote 1 0", "set 0 4096", "set 5 524288", "trade 0 = -15",
                "trade 1 = -15", "set 0 9999", "set 5 1000000", "trade 0 = -15", "trade 1 = -15", "told 10 = 0",
                "set 0 2317", "set 5 926838", "trade 1 = 99", "told 11 = 2147483646", "set 0 4096", "set 5 524288",
                "trade 0 = -15", "trade 1 = -15", "told 11 = 2147483646");
        edge("or CASH behind it, isn't an int's", "quote 0 0", "quote 1 0", "set 0 2147", "set 5 1000000",
                "trade 1 = 99", "trade 1 = -15", "set 0 483", "set 5 1000", "trade 1 = 98", "set 0 648", "set 5 1",
                "trade 1 = -15", "set 0 647", "trade 1 = 97", "told 11 = 2147483647", "set 0 100", "trade 1 = -15",
                "trade 0 = 98", "told 11 = 2147483547");
    }

    private static void smoothed() {
        edge("SPREAD becomes SPREAD * 0.75 + (p - MIDDLE) * (p - MIDDLE) * 0.25 (MIDDLE ahead of it; p the PRICE as a double)",
                "quote 0 1", "trade 0 = 101", "middle 1 = " + bits(0.25), "middle 3 = 0", "trade 0 = 102",
                "middle 1 = " + bits(0.25 * 0.75 + (999.0 - 999.75) * (999.0 - 999.75) * 0.25), "quote 1 0",
                "set 0 9999", "trade 1 = 101", "middle 3 = " + (long) ((0.25 * 0.75 + 0.75 * 0.75 * 0.25) * 0.75
                        + (9999.0 - 999.5625) * (9999.0 - 999.5625) * 0.25));
        edge("MIDDLE then MIDDLE + (p - MIDDLE) * 0.25", "quote 0 1", "trade 0 = 101", "middle 0 = " + bits(999.75),
                "middle 2 = 999", "trade 0 = 102", "middle 0 = " + bits(999.75 + (999.0 - 999.75) * 0.25), "quote 0 6",
                "trade 0 = -3", "middle 0 = " + bits(999.5625), "quote 0 0", "trade 0 = 103",
                "middle 0 = " + bits(999.5625 + (1000.0 - 999.5625) * 0.25));
    }

    private static void texts() {
        edge("(bytes, 100 at most)", "feed -1 = -2", "feed 128 = -2", "feed 0 = 1", "feed 127 = 2", "98 x feed 97",
                "count 2 = 100", "feed 97 = -4", "feed 128 = -2", "count 2 = 100", "read = -10", "count 2 = 0",
                "feed 97 = 1");
        edge("WORDS and a digit, 1 to 12 ORDERS, with ; between", "read = -10", "text bid0", "read = 1", "text " + TWELVE,
                "read = 4", "text " + TWELVE + ";hit", "read = -57", "told 10 = 4", "text pull;pull;pull;pull;pull;pull",
                "read = 6", "text pull;pull;pull;pull;pull;pull;pull;pull;pull;pull;pull;pull", "read = 12");
        edge("bidN, askN, hit, lift, pull (BID and ASK are 6)", "text bid0;ask5", "read = 2", "told 8 = 0", "told 9 = 5",
                "text hit;lift;lift;pull", "read = 4", "told 8 = 6", "told 9 = 6", "told 10 = -1", "text pull", "read = 1",
                "text bid6;ask6;hit;lift", "read = 2");
        edge("fairNNN (FAIR: 3 or 4 digits)", "text fair99", "read = -14", "text fair100", "read = 1", "told 0 = 100",
                "text fair9999", "read = 1", "told 0 = 9999", "text fair0100", "read = 1", "told 0 = 100",
                "text fair10000", "read = -18", "text fair", "read = -14", "told 0 = 100");
        edge("streetN", "text street0", "read = 1", "text street2", "read = 1", "told 6 = 2", "text street3", "read = 0",
                "told 6 = 2", "text street", "read = -16", "text street10", "read = -16", "told 6 = 2");
        edge("No blanks", "text  hit", "read = -10", "text hit ", "read = -13", "text hit; hit", "read = -14",
                "text bid 1", "read = -13", "text bid1 ;hit", "read = -14", "text  ", "read = -10");
        edge("A WORD: letters a .. z, as many as there are", "text hitlift", "read = -10", "text bidd1", "read = -10",
                "text bi1", "read = -10", "text Hit", "read = -10", "text hIt", "read = -10", "text hiT", "read = -10",
                "text {", "read = -10", "text `", "read = -10", "text hit{", "read = -13", "text hit`", "read = -13",
                "100 x feed 122", "read = -10", "96 x feed 97", "read = -10");
        edge("then digits, as many as there are (4 at most)", "text bid1234", "read = -13", "text bid12345", "read = -13",
                "text fair12345", "read = -18", "text fair1234567", "read = -18", "text fair1234;bid1", "read = 2",
                "text hit1234", "read = -13", "text bid/", "read = -13", "text bid:", "read = -13", "text fair123/",
                "read = -17", "text fair123:", "read = -17");
    }

    private static void faultsOfOrders() {
        edge("the place of a byte that begins no WORD", "text 1", "read = -10", "text ;hit", "read = -10",
                "text hit;;hit", "read = -14", "text hit;1", "read = -14", "feed 0", "read = -10", "feed 127", "read = -10",
                "text bid1;Hit", "read = -15", "text lift;-", "read = -15");
        edge("(the end of THE TEXT, if it ends there)", "read = -10", "read = -10", "text hit;", "read = -14",
                "text bid1;ask2;", "read = -20", "text fair1234;fair1234;fair1234;fair1234;fair1234;fair1234;fair1234;"
                + "fair1234;fair1234;fair1234;fair1234;", "read = -109");
        edge("of a WORD that is none of these", "text sell", "read = -10", "text sell9", "read = -10", "text bid1;sell;bid",
                "read = -15", "text hits", "read = -10", "text hi", "read = -10", "text h", "read = -10",
                "text fairs100", "read = -10", "text pul", "read = -10");
        edge("the place behind a WORD that has a wrong number of digits", "text bid", "read = -13", "text bid;hit",
                "read = -13", "text hit;ask12", "read = -17", "text bid12!", "read = -13", "text bid12;sell", "read = -13");
        edge("(fair 3 or 4; bid, ask, street 1; else none)", "text fair1", "read = -14", "text fair12", "read = -14",
                "text fair123", "read = 1", "text fair1234", "read = 1", "text ask", "read = -13", "text ask0", "read = 1",
                "text ask00", "read = -13", "text bid000", "read = -13", "text street1", "read = 1", "text street1111",
                "read = -16", "text hit0", "read = -13", "text lift1", "read = -14", "text pull9", "read = -14");
        edge("of a byte behind a whole ORDER that isn't ;", "text hit,", "read = -13", "text bid1a", "read = -14",
                "text bid1;fair100x", "read = -22", "text pull!;hit", "read = -14", "text bid1:", "read = -14",
                "text hit<", "read = -13");
        edge("(of a ; behind the 12th)", "text " + TWELVE + ";", "read = -57", "text " + TWELVE + ";sell", "read = -57",
                "text " + TWELVE + ",", "read = -57", "text hit;" + TWELVE, "read = -57",
                "text " + TWELVE.substring(4) + ";", "read = -54");
        edge("Without FAULT they are done, one behind the other", "text bid1;hit;bid2;hit;ask3;lift", "read = 6",
                "told 11 = -994", "told 10 = 1", "text hit;sell", "read = -14", "told 10 = 1",
                "text fair1234;fair1234;fair1234;fair1234;fair1234;street0;street1;street2;street0;street1;street2;street1",
                "count 2 = 100", "read = 12", "told 0 = 1234", "told 6 = 1",
                "text fair4321;fair4321;fair4321;fair4321;fair4321;street0;street1;street2;street0;street1;street2;bid",
                "4 x feed 49", "count 2 = 100", "read = -106", "told 0 = 1234");
        edge("Without FAULT they are done",
                "text fair1234;fair1234;fair1234;fair1234;fair1234;fair1234;fair1234;fair1234;fair1234;street0;street1;hit",
                "count 2 = 100", "read = 11", "quote 0 0",
                "text fair1234;fair1234;fair1234;fair1234;fair1234;fair1234;fair1234;fair1234;fair1234;street0;street1;hit",
                "count 2 = 100", "read = 12", "told 11 = -1234");
        edge("the place behind a WORD",
                "text fair1234;fair1234;fair1234;fair1234;fair1234;fair1234;fair1234;fair1234;fair1234;street0;street1;bid",
                "count 2 = 100", "read = -110", "told 0 = 1000");
        edge("those that would be refused aren't", "text hit;lift", "read = 0", "text bid7;bid9;ask8;fair099;fair000;street9",
                "read = 0", "told 8 = 6", "told 0 = 1000", "text bid0;hit;hit;hit;hit;hit;hit", "read = 5", "told 10 = 4",
                "set 5 1000000", "text fair9999;ask0;lift;fair1000;lift", "read = 4", "told 10 = 3", "told 11 = 999996000");
    }

    private static void ticket() {
        edge("STOCK, a blank, CASH, a blank, BID, /, ASK", "slip 0 0 -/- flat", "quote 0 0", "slip 0 0 0/- flat",
                "quote 1 5", "slip 0 0 0/5 flat", "ticket -1 = -1", "ticket min = -1", "ticket max = -5");
        edge("(numbers as the host writes them; a 6 as -)", "quote 0 0", "set 0 2147", "set 5 1000000", "trade 0 = 101",
                "set 0 483", "set 5 1000", "trade 0 = 102", "set 0 324", "set 5 2", "trade 0 = 103", "quote 0 6",
                "slip 3 -2147483648 -/- long");
        edge("and one of long, short, flat (STOCK above, below 0, 0)", "quote 0 0", "quote 1 0", "slip 0 0 0/0 flat",
                "trade 0 = 101", "slip 1 -1000 0/0 long", "trade 1 = 100", "slip 0 0 0/0 flat", "trade 1 = 99",
                "slip -1 1000 0/0 short");
    }

    private static void seen() {
        edge("All that follows is asked, and changes nothing", "see 0 2 2", "event 0 9", "tape 0 0 9",
                "fits 0", "fits 1", "after", "taken 0 0 0", "judge 0 0 0", "told 3 = 2", "told 1 = 4", "count 0 = 1",
                "count 1 = 1");
        edge("SEEN told by hand: a STOCK, a BID, an ASK (5 rows at most)", "count 0 = 0", "see 0 0 0 = 1", "see 0 0 0 = 2",
                "see 8 6 6 = 3", "see -8 6 6 = 4", "see 0 0 0 = 5", "see 0 0 0 = -4", "count 0 = 5", "see 0 -1 0 = 0",
                "see 0 0 0 = 1");
        // With 1 round at LIMIT an ASK a is worth A (7 FINE + a): 2 is the best of FINE 0, 0 of all others.
        edge("how many FINES 0 .. 20 there are by which BEST with ROUNDS to go is so for all SEEN", "set 2 1",
                "see 4 6 0 = 1", "fits 0 = 20", "fits 1 = 1", "see 4 6 2 = 2", "fits 0 = 0", "see 0 -1 0", "see 4 6 2 = 1",
                "fits 0 = 1", "fits 1 = 0", "set 3 99", "fits 0 = 1");
        edge("is so for all SEEN", "set 2 1", "4 x see 4 6 0", "see 4 6 0 = 5", "fits 0 = 20", "see 0 -1 0", "4 x see 4 6 0",
                "see 4 6 1 = 5", "fits 0 = 0", "see 0 -1 0", "4 x see 4 6 0", "see 5 6 0 = 5", "fits 0 = 0", "see 0 -1 0", "4 x see 4 6 0",
                "see 5 0 0 = 5", "fits 0 = 0", "see 0 -1 0", "set 1 8", "best 8 1 0 = 6", "see 8 6 0", "fits 0 = 20", "set 1 7",
                "fits 0 = 0", "fits 1 = -5");
        edge("by which BEST with ROUNDS to go", "rival 0 6 1", "set 2 1", "see 4 6 1", "fits 0 = 0", "lay 0 0 0", "fits 0 = 1",
                "fits 1 = 0", "lay 0 0 -1", "fits 0 = 0", "lay 0 3 0", "fits 0 = 1", "street 1", "fits 0 = 0");
        edge("(within LIMIT; those beyond are not so", "set 2 1", "see 4 6 0 = 1", "set 1 3", "fits 0 = 0", "fits 1 = -5",
                "set 1 4", "fits 0 = 20", "see 5 6 0 = 2", "fits 0 = 0", "set 1 5", "fits 0 = 20", "see 0 -1 0",
                "see 5 6 0 = 1", "fits 0 = 20", "see 0 -1 0", "set 1 4", "see -5 0 6", "fits 0 = 0");
        edge("ROUNDS 0: what is SEEN is not so", "set 2 0", "see 4 6 0", "fits 0 = 0", "fits 1 = -5", "set 2 1",
                "fits 0 = 20", "set 2 0", "see 0 -1 0", "see 0 0 0", "fits 0 = 0", "see 0 -1 0", "see 4 0 0", "fits 0 = 0");
        edge("with nothing SEEN all is so)", "fits 0 = 21", "fits 1 = 0", "set 2 0", "fits 0 = 21", "fits 1 = 0");
        edge("the least", "set 2 1", "fits 1 = 0", "see 4 6 0", "fits 1 = 1", "see 4 6 1", "fits 1 = -5");
    }

    private static void eventsAndTaken() {
        edge("0 FINE is n, 1 LIMIT is n, 2 ROUNDS are n", "idle", "odds 0 5 1000", "after = 3000000", "event 2 1",
                "after = 3000000", "event 0 0", "after = 5000000", "event 2 0", "after = 0", "event 2 8", "event 1 1",
                "after = 5000000", "event 1 8", "after = 40000000", "event 0 99", "after = 0", "told 3 = 2");
        edge("3 place n of THE STREET holds nothing", "idle", "odds 0 5 1000", "set 2 1", "set 3 0", "rival 1 0 0",
                "after = 5000000", "event 3 0", "after = 5000000", "lay 0 0 0", "value 0 1 = 2500000", "after = 5000000",
                "lay 0 3 0", "after = 2500000", "event 3 0", "after = 2500000", "event 3 3", "after = 5000000",
                "event 3 4 = -2", "event 3 -1 = -2", "at 0 0 = 0");
        edge("AFTER, behind all of them", "idle", "odds 0 5 1000", "set 2 1", "7 x event 0 1", "after = 4000000",
                "event 0 0 = 8", "after = 5000000", "rival 1 0 0", "lay 0 0 0", "after = 2500000", "event -1 0",
                "event 0 0", "6 x event 3 1", "after = 2500000", "event 3 0 = 8", "after = 5000000");
        edge("8 rows at most", "8 x event 0 1", "event 0 1 = -4", "event 3 0 = -4", "count 1 = 8", "event -1 0 = 0",
                "count 1 = 0", "event 0 1 = 1");
        edge("AFTER, behind all of them: VALUE of STOCK 0 with ROUNDS to go", "after = 2371253", "set 2 0", "after = 0",
                "event 2 1", "after = 297600", "event 2 4", "after = 2371253", "event 2 0", "after = 0", "set 2 8",
                "after = 0");
        edge("how many trades there are on the mean in a round of a BID and an ASK (CHANCES of both, together, by 1000)",
                "taken 0 0 0 = 6", "taken 0 0 1 = 5", "taken 0 6 0 = 3", "taken 6 0 1 = 5", "taken 5 6 0 = 1",
                "taken 5 6 1 = 100", "rival 0 0 0", "lay 0 0 0", "taken 1 6 0 = 1", "taken 1 6 1 = 5", "taken 6 1 0 = 1", "taken 6 1 1 = 5",
                "taken 1 1 0 = 2", "taken 1 1 1 = 5");
        edge("a fraction in lowest terms", "taken 6 6 0 = 0", "taken 6 6 1 = 1", "odds 0 0 1000", "odds 1 0 1000",
                "taken 0 0 0 = 2", "taken 0 0 1 = 1", "taken 0 6 0 = 1", "taken 0 6 1 = 1", "odds 0 0 1", "taken 0 6 0 = 1",
                "taken 0 6 1 = 1000", "odds 0 0 999", "taken 0 0 0 = 1999", "taken 0 0 1 = 1000", "odds 0 0 0",
                "taken 0 6 0 = 0", "taken 0 6 1 = 1");
    }

    private static void imageAndTapes() {
        edge("THE IMAGE: all but THE TEXT, TAPES", "text hi", "tape 0 0 2", "see 0 0 0", "event 0 7", "image = 0",
                "rival 0 0 0", "set 3 9", "see 0 0 0", "event 0 8", "quote 0 0", "trade 0 = 101", "feed 116", "item 0 0 5",
                "tape 1 1 1", "undo = 0", "told 3 = 2", "told 7 = 0", "told 8 = 6", "told 10 = 0", "middle 2 = 1000",
                "middle 1 = 0", "count 0 = 1", "count 1 = 1", "count 2 = 3", "row 0: 5 0", "row 1: 0");
        edge("THE IMAGE: all but", "set 5 7", "quote 0 1", "quote 1 2", "trade 0", "4 x see 4 6 0", "see -4 0 6 = 5",
                "7 x event 0 1", "event 2 1 = 8", "image = 0", "set 5 8", "quote 0 4", "quote 1 3", "trade 0", "see 0 -1 0",
                "5 x see 0 5 5", "event -1 0", "8 x event 0 9", "undo = 0", "told 5 = 7", "told 8 = 1", "told 9 = 2",
                "told 10 = 1", "told 11 = -6993", "middle 0 = " + bits(999.75), "middle 1 = " + bits(0.25), "count 0 = 5",
                "count 1 = 8", "after = 625000", "set 2 1", "fits 0 = 20", "set 2 0", "fits 0 = 0");
        edge("TAPES 0 .. 5 hold nothing (at first)", "item -1 0 0 = -1", "item 0 0 0 = -11", "item 5 0 0 = -11",
                "item 6 0 0 = -1", "peek 5 0 = NO", "tape 6 0 0 = -1", "tape -1 0 0 = -1", "shift 0 0 5 0 0 = -11");
        edge("a row of 0 bytes, 1 shorts, 2 ints, 3 longs, 4 booleans (items 0, 1)", "tape 0 0 1", "tape 1 1 1",
                "tape 2 2 1", "tape 3 3 1", "tape 4 4 1", "item 0 0 128", "item 1 0 32768", "item 2 0 2147483648",
                "item 3 0 9223372036854775807", "item 4 0 4294967296", "row 0: -128", "row 1: -32768", "row 2: -2147483648",
                "row 3: 9223372036854775807", "row 4: 1", "item 4 0 0", "row 4: 0", "tape 5 5 1 = -2", "tape 5 -2 1 = -2");
    }

    private static void judged() {
        edge("from a place on, STOCK by STOCK (-LIMIT first), is JUDGED", "set 1 1", "rule -1 0 3", "rule 0 1 4",
                "rule 1 2 5", "rule -2 3 3", "tape 0 0 4", "item 0 2 1", "item 0 3 2", "judge 0 0 1 = -5", "judge 0 0 0 = 1",
                "judge 1 0 0 = 0", "item 0 1 3", "item 0 2 4", "item 0 3 5", "judge 1 0 1 = -5");
        edge("the first STOCK (and LIMIT: from 0 on) of which it is otherwise", "tape 0 0 60", "judge 0 0 0 = 0",
                "60 x rule 0 6 6 = 66", "rule -4 0 6", "judge 0 0 0 = 1", "rule -3 0 6", "rule -2 0 6", "rule -1 0 6",
                "rule 0 0 6", "rule 1 0 6", "rule 2 0 6", "rule 3 0 6", "judge 0 0 0 = 8", "judge 0 0 51 = 8");
        edge("-5: none", "set 1 1", "tape 0 0 3", "3 x rule 0 0 0", "rule -1 0 0", "rule 1 0 0", "judge 0 0 0 = -5",
                "judge 1 0 0 = -5", "item 0 2 256", "judge 0 0 0 = -5", "item 0 2 -1", "judge 0 0 0 = 2");
        edge("100 and how many were looked at, if the row ends ahead of that", "set 1 1", "rule -1 0 0", "rule 0 0 0",
                "rule 1 0 0", "tape 0 0 2", "judge 0 0 0 = 102", "judge 0 0 1 = 101", "judge 0 0 2 = 100",
                "judge 0 0 3 = 100", "judge 0 0 max = 100", "tape 0 0 0", "judge 0 0 0 = 100", "tape 0 0 3",
                "judge 0 0 0 = -5", "judge 0 0 1 = 102", "rule 0 1 1", "judge 0 0 1 = 1", "judge 0 0 0 = 1");
        edge("(or the place is below 0, or the TAPE holds nothing)", "judge 0 0 0 = 100", "judge 1 5 -1 = 100", "tape 0 0 9",
                "judge 0 0 -1 = 100", "judge 0 0 min = 100", "tape 0 -1 0", "judge 0 0 0 = 100", "judge 0 0 max = 100",
                "tape 0 3 9", "judge 0 0 0 = -12", "judge 0 0 -1 = -12");
    }

    private static void hostsRefusals() {
        edge("NOTHING (-11): nothing is there", "item 0 0 0 = -11", "shift 0 0 0 0 0 = -11", "tape 0 0 0",
                "item 0 0 0 = -13", "shift 0 0 0 0 0 = 0", "shift 0 0 1 0 0 = -11", "shift 1 0 0 0 0 = -11");
        edge("CAST (-12): another sort", "rival 0 0 0", "lay 1 0 0 = -12", "tape 0 0 1", "tape 1 4 1",
                "shift 0 0 1 0 1 = -12", "shift 1 0 0 0 0 = -12", "judge 0 1 0 = -12");
        edge("PLACE (-13): no such place", "at 0 4 = -13", "lay 0 4 -1 = -13", "tape 0 0 60", "item 0 60 1 = -13",
                "item 0 -1 1 = -13", "item 0 59 1 = 1", "shift 0 0 0 1 60 = -13");
        edge("SIZE (-14): a size below 0", "tape 0 0 -1 = -14", "tape 0 4 min = -14", "tape 0 0 0 = 1", "tape 0 0 -1 = -14",
                "item 0 0 0 = -13");
    }

    private static void answers() {
        edge("NONE (-1) no such number", "set 6 0 = -1", "set -1 0 = -1", "odds 2 0 0 = -1", "quote 2 0 = -1",
                "trade -1 = -1", "ticket -1 = -1", "fits 2 = -1", "event -2 0 = -1");
        edge("BAD (-2) a number is not as told", "set 0 0 = -2", "feed 128 = -2", "count 4 = -2", "adopt 0 = -2",
                "best 5 1 0 = -2");
        edge("STATE (-3) as told", "undo = -3", "trade 0 = -3", "image = 0", "undo = 0");
        edge("FULL (-4)", "8 x rival 0 0 0", "rival 0 0 0 = -4", "5 x see 0 0 0", "see 0 0 0 = -4", "8 x event 0 0",
                "event 0 0 = -4", "100 x feed 0", "feed 0 = -4");
        edge("the first that a call's words name", "set 6 -1 = -1", "odds 2 0 1001 = -1", "odds 0 6 -1 = -1",
                "rival 4 7 7 = -1", "theirs 0 0 6 = -1", "chance 2 7 = -1", "best 9 9 2 = -1", "ruled 9 2 = -2",
                "reserve 9 9 2 = -2", "quote 2 7 = -1", "event 4 -1 = -1", "judge 2 0 0 = -1", "tape 6 9 -1 = -1",
                "tape 0 9 -1 = -2", "tape 0 -2 61 = -2", "item 6 -1 0 = -1", "item 0 -1 0 = -11", "shift 6 -1 0 -1 -1 = -1",
                "shift 0 -1 1 -1 -1 = -11", "8 x rival 0 0 0", "rival 0 7 0 = -2", "lay 3 4 0 = -1", "lay 1 4 0 = -13",
                "lay 1 3 0 = -12", "5 x see 0 0 0", "see 0 0 7 = -2", "8 x event 0 0", "event 0 100 = -2", "100 x feed 0",
                "feed 128 = -2", "set 0 9999", "set 5 1000000", "trade 0 = -3", "quote 0 0", "trade 0 = -15",
                "trade 2 = -1");
        edge("What is answered so changes nothing", "rival 0 0 0", "lay 0 0 0", "set 0 0 = -2", "odds 0 0 2000 = -2",
                "lay 1 0 0 = -12", "street 5 = -1", "copy 0 5 = -1", "rule 0 7 7 = -2", "adopt 9 = -2", "quote 0 9 = -2",
                "trade 0 = -3", "feed 200 = -2", "see 0 7 7 = -2", "event 0 100 = -2", "undo = -3", "tape 0 7 7 = -2",
                "item 0 0 0 = -11", "shift 0 0 0 0 0 = -11", "quote 0 0", "set 0 9999", "set 5 1000000", "trade 0 = -15",
                "told 10 = 0", "told 11 = 0", "middle 1 = 0", "middle 2 = 1000");
    }

    private static void details() {
        // Not cut, the ASK 4 would be the better one: 19999.964016 of it all.
        edge("VALUES of pairs are compared when they are cut", "idle", "set 1 1", "set 3 1", "odds 0 0 6", "odds 0 1 999",
                "odds 1 0 10", "odds 1 4 2", "value 0 2 = 19999", "best 0 2 0 = 1", "best 0 2 1 = 0", "value 1 2 = -980001",
                "best 1 2 1 = 0");
        edge("With a STOCK at a bound, or beyond one, no trade is done that leaves it beyond (STATE)", "quote 0 0",
                "quote 1 0", "4 x trade 0", "trade 0 = -3", "trade 1 = 103", "set 1 1", "trade 1 = -3", "trade 0 = -3",
                "set 1 2", "trade 0 = -3", "trade 1 = 102", "trade 0 = -3");
        edge("The place behind a WORD with a wrong number of digits is behind its letters", "text bid12", "read = -13",
                "text hit1", "read = -13", "text fair12", "read = -14", "text bid1;street12", "read = -21");
        edge("a digit behind the fourth one is a byte behind a whole ORDER", "text fair12345", "read = -18",
                "text bid1;fair12345", "read = -23", "text bid12345", "read = -13", "told 0 = 1000");
        edge("An ORDER with a number that may not be is refused when it is done", "text bid7;ask7;street3;fair099;fair0000",
                "read = 0", "told 8 = 6", "told 6 = 0", "told 0 = 1000", "text bid7;bid5;ask8", "read = 1", "told 8 = 5");
        edge("EVENT 3 goes by THE STREET as it is when AFTER is asked", "idle", "odds 0 5 1000", "set 2 1", "set 3 0",
                "rival 1 0 0", "event 3 1", "lay 1 1 0", "after = 5000000", "street 1", "value 0 1 = 2500000",
                "after = 5000000", "lay 1 1 -1", "lay 1 2 0", "after = 2500000", "street 0", "after = 5000000",
                "lay 0 0 0", "after = 2500000");
        edge("JUDGED tells how far the STOCK is above -LIMIT", "rule 0 1 6 = 66", "tape 0 0 17", "4 x item 0 0 6",
                "item 0 1 6", "item 0 2 6", "item 0 3 6", "judge 0 0 0 = 4", "item 0 4 1", "judge 0 0 0 = 5", "set 1 1",
                "judge 0 0 3 = 2", "judge 0 0 0 = 1");
        edges.section("The constants: ", "\n\n");
        edge("`NO = Long.MIN_VALUE`: There is no such number", "told 12 = NO", "told -1 = NO", "value 5 0 = NO",
                "worth 0 0 2 = NO", "meeting 5 0 = NO", "middle 4 = NO", "taken 7 0 0 = NO", "peek 0 0 = NO");
        DUE.is("NO", QuoteMind.NO, Long.MIN_VALUE);
    }
}
