import java.io.IOException;

/** The boundary cases that the promises name, promise by promise: each clause has an edge of its own. */
public final class EdgesOfPromisesTest {
    private static final Due DUE = new Due("EdgesOfPromisesTest");
    private static final long ONE = Double.doubleToLongBits(1.0);

    private static Edges edges;

    public static void main(String[] args) throws IOException {
        edges = new Edges(DUE);
        settings();
        rivals();
        decks();
        values();
        rules();
        floats();
        truth();
        texts();
        seen();
        events();
        image();
        tapes();
        edges.end();
        DUE.end();
    }

    private static void promise(int number) {
        edges.promise(number);
    }

    private static void edge(String quotation, String... rows) {
        edges.edge(quotation, rows);
    }

    private static void settings() {
        promise(1);
        edge("As at first", "told 0 = 1000", "told 1 = 4", "told 2 = 4", "told 3 = 2", "told 4 = 5", "told 5 = 1",
                "told 6 = 0", "told 7 = 0", "told 8 = 6", "told 9 = 6", "told 10 = 0", "told 11 = 0", "undo = -3",
                "count 0 = 0", "count 1 = 0", "count 2 = 0", "peek 0 0 = NO", "slip 0 0 -/- flat");
        promise(2);
        edge("FAIR (what 0), LIMIT (1), ROUNDS (2), FINE (3), RISK (4), SIZE (5) becomes v: what it was", "set 0 100 = 1000",
                "set 1 1 = 4", "set 2 0 = 4", "set 3 0 = 2", "set 4 0 = 5", "set 5 1000000 = 1", "set 0 9999 = 100",
                "set 1 8 = 1", "set 2 8 = 0", "set 3 99 = 0", "set 4 99 = 0", "set 5 1 = 1000000", "set 5 1 = 1");
        edge("NONE", "set -1 5 = -1", "set 6 5 = -1", "set min 5 = -1", "set max 5 = -1", "set 6 -1 = -1");
        edge("BAD", "set 0 99 = -2", "set 0 10000 = -2", "set 1 0 = -2", "set 1 9 = -2", "set 2 -1 = -2", "set 2 9 = -2",
                "set 3 -1 = -2", "set 3 100 = -2", "set 4 -1 = -2", "set 4 100 = -2", "set 5 0 = -2", "set 5 1000001 = -2",
                "set 5 max = -2", "set 5 min = -2");
        promise(3);
        edge("As they are; 6 STREET, 7 RIVALS, 8 BID, 9 ASK, 10 STOCK, 11 CASH", "street 2", "rival 0 0 0", "quote 0 0",
                "quote 1 5", "trade 0", "told 6 = 2", "told 7 = 1", "told 8 = 0", "told 9 = 5", "told 10 = 1",
                "told 11 = -1000", "trade 1", "trade 1", "told 10 = -1", "told 11 = 1010");
        edge("7 RIVALS, 8 BID", "8 x rival 0 0 0", "rival 0 0 0 = -4", "told 7 = 8");
        edge("NO: no such what", "told -1 = NO", "told 12 = NO", "told min = NO", "told max = NO");
        promise(4);
        edge("ODDS become v: what they were", "odds 0 0 0 = 600", "odds 0 0 1000 = 0", "odds 0 0 1000 = 1000",
                "odds 1 0 1 = 600", "odds 1 5 1000 = 10");
        edge("NONE: side, distance (0 .. 5)", "odds -1 0 0 = -1", "odds 2 0 0 = -1", "odds 0 -1 0 = -1", "odds 0 6 0 = -1",
                "odds 1 max 0 = -1", "odds min 0 0 = -1", "odds 2 6 -1 = -1", "odds 0 6 1001 = -1");
        edge("BAD", "odds 0 0 -1 = -2", "odds 1 5 1001 = -2", "odds 0 0 min = -2", "odds 0 0 max = -2");
    }

    private static void rivals() {
        promise(5);
        edge("A RIVAL comes: its number", "rival 0 0 0 = 0", "rival 3 6 6 = 1", "rival 2 0 6 = 2", "rival 1 6 0 = 3",
                "rival 0 0 0 = 4", "rival 0 0 0 = 5", "rival 0 0 0 = 6", "rival 0 0 0 = 7");
        edge("NONE: kind", "rival -1 0 0 = -1", "rival 4 0 0 = -1", "rival max 7 7 = -1", "rival min 0 0 = -1");
        edge("BAD: x, y", "rival 0 -1 0 = -2", "rival 0 7 0 = -2", "rival 0 0 -1 = -2", "rival 0 0 7 = -2",
                "rival 1 7 0 = -2", "rival 2 0 7 = -2", "rival 3 7 7 = -2", "rival 0 6 6 = 0");
        edge("FULL: 8", "7 x rival 0 0 0", "rival 0 0 0 = 7", "rival 0 0 0 = -4", "rival 1 6 6 = -4", "rival 0 7 0 = -2",
                "rival 4 0 0 = -1", "told 7 = 8");
        promise(6);
        edge("THEIRS", "rival 0 6 0", "theirs 0 0 0 = 6", "theirs 0 1 5 = 0");
        edge("NONE: rival, side", "theirs 0 0 0 = -1", "rival 0 0 0", "theirs -1 0 0 = -1", "theirs 1 0 0 = -1",
                "theirs 8 0 0 = -1", "theirs min 0 0 = -1", "theirs max 0 0 = -1", "theirs 0 -1 0 = -1", "theirs 0 2 0 = -1",
                "theirs 0 2 6 = -1", "theirs 1 0 6 = -1");
        edge("BAD: d (0 .. 5)", "rival 2 0 0", "theirs 0 0 -1 = -2", "theirs 0 0 6 = -2", "theirs 0 1 max = -2",
                "theirs 0 0 0 = 1", "theirs 0 0 5 = 6");
    }

    private static void decks() {
        promise(7);
        edge("A place of a DECK holds a RIVAL (-1: nothing): whom it held (-5: nobody)", "rival 1 0 0", "rival 1 0 0",
                "lay 0 0 -1 = -5", "lay 0 0 0 = -5", "lay 0 0 0 = 0", "lay 0 0 1 = 0", "lay 0 0 -1 = 1", "lay 0 0 -1 = -5",
                "lay 1 3 1 = -5", "lay 0 3 1 = -5", "at 1 3 = 1", "at 0 3 = 1");
        edge("NONE: deck, rival", "rival 1 0 0", "lay -1 0 0 = -1", "lay 3 0 0 = -1", "lay 0 0 1 = -1", "lay 0 0 -2 = -1",
                "lay 0 0 min = -1", "lay 0 0 max = -1", "lay 0 9 1 = -1", "lay 3 9 -1 = -1");
        edge("PLACE", "rival 0 0 0", "lay 0 -1 0 = -13", "lay 0 4 0 = -13", "lay 0 4 -1 = -13", "lay 1 4 0 = -13",
                "lay 2 max -1 = -13", "lay 0 min 0 = -13");
        edge("CAST: this DECK doesn't take it", "rival 0 0 0", "rival 1 0 0", "rival 2 0 0", "rival 3 0 0", "lay 1 0 1",
                "lay 1 0 0 = -12", "lay 1 0 2 = -12", "lay 2 0 0 = -12", "lay 2 0 1 = -12", "lay 2 0 3 = -12", "at 1 0 = 1",
                "at 2 0 = -5", "lay 1 0 -1 = 1", "lay 2 0 -1 = -5");
        promise(8);
        edge("Whom a place of a DECK holds; -5", "rival 0 0 0", "at 0 0 = -5", "lay 0 0 0", "at 0 0 = 0", "at 0 1 = -5",
                "lay 0 0 -1", "at 0 0 = -5");
        edge("NONE; PLACE", "at -1 0 = -1", "at 3 0 = -1", "at 3 4 = -1", "at min min = -1");
        edge("PLACE", "at 0 -1 = -13", "at 0 4 = -13", "at 2 max = -13", "at 1 min = -13");
        promise(9);
        edge("THE STREET becomes a DECK: which it was", "street 0 = 0", "street 2 = 0", "street 2 = 2", "street 0 = 2");
        edge("NONE", "street 3 = -1", "street -1 = -1", "street max = -1", "told 6 = 0");
        promise(10);
        edge("DECK to becomes as DECK from is", "rival 1 0 0", "rival 3 0 0", "lay 1 1 1", "lay 0 0 0", "lay 0 2 0",
                "copy 1 0 = 4", "at 0 0 = -5", "at 0 1 = 1", "at 0 2 = -5", "at 1 1 = 1", "copy 0 1 = 4", "at 1 1 = 1");
        edge("(a RIVAL that it doesn't take, and all behind it, don't come; these places stay)", "rival 1 0 0",
                "rival 2 0 0", "lay 0 0 1", "lay 0 1 0", "lay 1 2 0", "lay 1 3 0", "copy 0 1 = 0", "at 1 0 = -5",
                "at 1 2 = 0", "copy 0 2 = 1", "at 2 0 = 1", "at 2 1 = -5", "lay 0 0 -1", "lay 0 1 -1", "lay 0 2 -1",
                "lay 0 3 1", "copy 0 1 = 3", "at 1 2 = -5", "at 1 3 = 0");
        edge("how many places came (4: all)", "copy 0 1 = 4", "copy 2 2 = 4", "rival 0 0 0", "lay 0 3 0", "copy 0 0 = 4",
                "copy 0 1 = 3", "copy 0 2 = 3", "lay 0 0 0", "copy 0 1 = 0", "copy 1 0 = 4", "at 0 0 = -5");
        edge("NONE: either", "copy -1 0 = -1", "copy 3 0 = -1", "copy 0 -1 = -1", "copy 0 3 = -1", "copy max min = -1");
        promise(11);
        edge("CHANCE", "chance 0 0 = 600", "rival 0 0 0", "lay 0 0 0", "chance 0 0 = 450", "chance 1 5 = 5");
        edge("NONE: side", "chance -1 0 = -1", "chance 2 0 = -1", "chance 2 7 = -1", "chance max -1 = -1");
        edge("BAD: d (0 .. 6)", "chance 0 -1 = -2", "chance 0 7 = -2", "chance 1 min = -2", "chance 1 6 = 0",
                "chance 1 0 = 600");
    }

    private static void values() {
        promise(12);
        edge("VALUE", "value 0 1 = 297600", "value 0 4 = 2371253", "value 4 4 = -7035680", "value -4 4 = -7035680");
        edge("NO: STOCK s beyond LIMIT, t (0 .. 8)", "value 5 0 = NO", "value -5 0 = NO", "value 4 0 = -32000000",
                "value -4 0 = -32000000", "value 0 -1 = NO", "value 0 9 = NO", "value 0 8", "value min 0 = NO",
                "value max max = NO", "set 1 1", "value 2 0 = NO", "value -1 0 = -2000000", "set 1 8", "value 9 0 = NO",
                "value 8 8");
        promise(13);
        edge("BEST: what 0 BID, 1 ASK", "best 0 1 0 = 3", "best 0 1 1 = 3", "best 3 4 0 = 5", "best 3 4 1 = 0",
                "best -3 4 0 = 0", "best -3 4 1 = 5");
        edge("NONE: what", "best 0 1 -1 = -1", "best 0 1 2 = -1", "best 5 0 2 = -1", "best 0 1 max = -1");
        edge("BAD: s beyond LIMIT, t (1 .. 8)", "best 5 1 0 = -2", "best -5 1 0 = -2", "best 4 1 0 = 6", "best -4 1 1 = 6",
                "best 0 0 0 = -2", "best 0 9 0 = -2", "best 0 8 0", "best 0 -1 1 = -2", "best min 1 0 = -2", "set 1 1",
                "best 2 1 0 = -2", "best 1 1 0 = 6");
    }

    private static void rules() {
        promise(14);
        edge("THE RULE's pair of a STOCK (-8 .. 8) becomes b, a: 10 times the BID and the ASK that were", "rule -8 0 0 = 66",
                "rule -8 6 5 = 0", "rule -8 6 6 = 65", "rule 8 0 6 = 66", "rule 8 6 0 = 6", "rule 8 6 0 = 60",
                "rule 0 1 2 = 66", "set 1 1", "rule 8 0 0 = 60");
        edge("BAD", "rule 9 0 0 = -2", "rule -9 0 0 = -2", "rule 0 -1 0 = -2", "rule 0 7 0 = -2", "rule 0 0 -1 = -2",
                "rule 0 0 7 = -2", "rule min 0 0 = -2", "rule max 0 0 = -2");
        promise(15);
        edge("THE RULE of all STOCKS within LIMIT becomes BEST with t (1 .. 8) ROUNDS to go", "set 1 1", "adopt 1 = 3",
                "ruled 1 0 = 6", "ruled 1 1 = 0", "ruled 0 0 = 3", "ruled 0 1 = 3", "ruled -1 0 = 0", "ruled -1 1 = 6",
                "ruled 2 0 = 6", "ruled 2 1 = 6", "ruled -2 0 = 6", "set 1 8", "adopt 8", "ruled 8 0 = 6", "ruled -8 1 = 6");
        // With 1 round 0 and 0 are the best of STOCKS 1 and -1 too, 3 and 3 of 0.
        edge("how many pairs are others then", "set 1 1", "rule 0 3 3 = 66", "adopt 1 = 2", "adopt 1 = 0", "rule 0 3 2 = 33",
                "adopt 1 = 1", "rule 1 5 0 = 60", "rule 2 0 0 = 66", "adopt 1 = 1", "ruled 2 0 = 0", "adopt 1 = 0");
        edge("BAD", "adopt 0 = -2", "adopt 9 = -2", "adopt -1 = -2", "adopt min = -2", "adopt max = -2", "ruled 0 0 = 6");
        promise(16);
        edge("WORTH (what 0), LOSS (1)", "worth 0 8 0 = 0", "worth 4 8 0 = -32000000", "worth -4 0 0 = -32000000",
                "worth -4 0 1 = 0", "worth 0 1 1 = 297600", "adopt 4 = 9", "worth 0 1 1 = 47600", "worth 0 4 0 = 2189775",
                "worth 0 4 1 = 181478");
        edge("NO: s beyond LIMIT, t (0 .. 8), what", "worth 5 0 0 = NO", "worth -5 0 0 = NO", "worth 0 -1 0 = NO",
                "worth 0 9 0 = NO", "worth 0 0 -1 = NO", "worth 0 0 2 = NO", "worth 4 0 0 = -32000000", "worth 0 8 0 = 0",
                "worth min max 0 = NO", "set 1 8", "worth 8 8 0 = -128000000", "worth -8 8 0 = -128000000", "worth 9 0 0 = NO",
                "worth -9 0 1 = NO", "worth 8 0 1 = 0");
        promise(17);
        edge("Of THE RULE: what 0 BID, 1 ASK of a STOCK (-8 .. 8)", "rule -8 0 5", "rule 8 4 3", "ruled -8 0 = 0",
                "ruled -8 1 = 5", "ruled 8 0 = 4", "ruled 8 1 = 3", "set 1 1", "ruled 8 0 = 4");
        edge("BAD: s", "ruled 9 0 = -2", "ruled -9 0 = -2", "ruled 9 2 = -2", "ruled min 0 = -2", "ruled max 1 = -2");
        edge("NONE: what", "ruled 0 -1 = -1", "ruled 0 2 = -1", "ruled -8 min = -1");
    }

    private static void floats() {
        promise(18);
        edge("RESERVE's bits (what 0), RESERVE and HALF (1)", "reserve 3 4 0 = 1148836250", "reserve 3 4 1 = 999",
                "reserve -8 8 1 = 1003", "reserve 0 0 0 = " + Float.floatToIntBits(1000f), "reserve 0 0 1 = 1000");
        edge("BAD: s (-8 .. 8), t (0 .. 8)", "reserve 9 0 0 = -2", "reserve -9 0 0 = -2", "reserve 0 -1 0 = -2",
                "reserve 0 9 0 = -2", "reserve 9 9 2 = -2", "reserve min 0 0 = -2", "reserve 0 max 0 = -2", "set 1 1",
                "reserve 8 8 1 = 997", "reserve -8 0 1 = 1000");
        edge("NONE: what", "reserve 0 0 -1 = -1", "reserve 0 0 2 = -1", "reserve 8 8 max = -1");
        promise(19);
        edge("MEETING's bits", "meeting 4 0 = " + ONE, "meeting 0 0 = 0", "meeting 0 3 = 0", "meeting 3 1");
        edge("NO: s beyond LIMIT, t (0 .. 8)", "meeting 5 0 = NO", "meeting -5 0 = NO", "meeting 0 -1 = NO",
                "meeting 0 9 = NO", "meeting 4 8 = " + ONE, "meeting min 0 = NO", "set 1 1", "meeting 2 0 = NO",
                "meeting 1 8 = " + ONE, "set 1 8", "meeting 8 8 = " + ONE, "meeting -8 0 = " + ONE, "meeting 9 8 = NO",
                "meeting -9 0 = NO", "meeting 7 0 = 0", "meeting 0 7 = 0");
        promise(20);
        edge("MIDDLE (what 0), SPREAD (1): bits", "middle 0 = " + Double.doubleToLongBits(1000.0), "middle 1 = 0",
                "quote 0 2", "trade 0", "middle 0 = " + Double.doubleToLongBits(999.5), "middle 1 = " + ONE);
        edge("cast to a long (2, 3)", "middle 2 = 1000", "middle 3 = 0", "quote 0 2", "trade 0", "middle 2 = 999",
                "middle 3 = 1", "set 0 9999", "trade 0", "middle 2 = 3248", "middle 3 = 20238752");
        edge("NO", "middle -1 = NO", "middle 4 = NO", "middle min = NO", "middle max = NO");
    }

    private static void truth() {
        promise(21);
        edge("My BID (side 0), ASK (1) becomes d (0 .. 6): what it was", "quote 0 0 = 6", "quote 0 6 = 0", "quote 0 6 = 6",
                "quote 1 5 = 6", "quote 1 0 = 5", "told 8 = 6", "told 9 = 0");
        edge("NONE", "quote -1 0 = -1", "quote 2 0 = -1", "quote 2 7 = -1", "quote min 0 = -1");
        edge("BAD", "quote 0 -1 = -2", "quote 0 7 = -2", "quote 1 max = -2", "quote 1 min = -2");
        promise(22);
        edge("HIT (side 0), LIFT (1): STOCK then (and 100)", "quote 0 0", "quote 1 0", "set 1 8", "trade 0 = 101",
                "7 x trade 0", "told 10 = 8", "trade 1 = 107", "14 x trade 1", "trade 1 = 92", "told 10 = -8",
                "trade 0 = 93");
        edge("NONE; STATE", "trade -1 = -1", "trade 2 = -1", "trade max = -1");
        edge("STATE", "trade 0 = -3", "trade 1 = -3", "quote 0 0", "4 x trade 0", "trade 0 = -3", "set 5 1000000",
                "set 0 9999", "trade 0 = -3", "trade 1 = -3");
        edge("OVER", "quote 0 5", "quote 1 0", "set 0 2152", "set 5 1000000", "trade 0 = 101", "trade 1 = -15",
                "trade 0 = -15", "set 0 2153", "trade 0 = -15", "quote 0 6", "trade 0 = -3", "told 11 = -2147000000");
    }

    private static void texts() {
        promise(23);
        edge("A sign (0 .. 127) comes behind THE TEXT's: how many it has", "feed 0 = 1", "feed 127 = 2", "97 x feed 9",
                "feed 9 = 100");
        edge("BAD; FULL", "feed -1 = -2", "feed 128 = -2", "feed min = -2", "feed max = -2", "count 2 = 0");
        edge("FULL", "99 x feed 9", "feed 9 = 100", "feed 9 = -4", "feed 128 = -2", "read = -10", "feed 9 = 1");
        promise(24);
        edge("THE TEXT, which is empty then (by a FAULT, too), are ORDERS", "read = -10", "text sell", "read = -10",
                "count 2 = 0", "text bid1", "read = 1", "count 2 = 0", "text bid7", "read = 0", "count 2 = 0", "read = -10");
        edge("how many were done", "text bid0;bid7;hit;lift;pull", "read = 3", "text hit", "read = 0",
                "text bid6;ask6;pull;pull;street0;fair1000", "read = 6", "text bid0;hit;hit;hit;hit;hit", "read = 4");
        edge("-10 less the FAULT", "text hit;hit;x", "read = -18", "text hit;hit;hit;hit;hit;hit;hit;hit;hit;hit;hit;hit;",
                "read = -57",
                "text fair1234;fair1234;fair1234;fair1234;fair1234;fair1234;fair1234;fair1234;fair1234;fair1234;fair1234;b",
                "read = -109", "told 0 = 1000");
        edge("-10 less the FAULT", "text street1;fair4321;fair4321;fair4321;fair4321;fair4321;fair4321;fair4321;fair4321;"
                + "fair4321;fair4321;b", "count 2 = 99", "read = -108", "text bid1;street1;fair4321;fair4321;fair4321;"
                + "fair4321;fair4321;fair4321;fair4321;fair4321;fair4321;bid", "count 2 = 97", "read = -107", "told 0 = 1000",
                "told 6 = 0");
        promise(25);
        edge("The i-th byte of THE TICKET", "slip 0 0 -/- flat", "ticket 0 = 48", "ticket 11 = 116");
        edge("-5: it is shorter", "ticket 12 = -5", "ticket max = -5", "quote 0 0", "trade 0", "slip 1 -1000 0/- long",
                "ticket 15 = 103", "ticket 16 = -5");
        edge("NONE: i is below 0", "ticket -1 = -1", "ticket min = -1", "ticket 0 = 48");
    }

    private static void seen() {
        promise(26);
        edge("What is SEEN comes: how many there are", "see -8 0 6 = 1", "see 8 6 0 = 2", "see 0 3 3 = 3", "see 0 3 3 = 4",
                "see 0 3 3 = 5", "count 0 = 5");
        edge("(b -1: none then, 0, whatever the others are)", "see 0 -1 0 = 0", "see 0 0 0 = 1", "see 9 -1 7 = 0",
                "count 0 = 0", "5 x see 0 0 0", "see min -1 max = 0", "see 0 0 0 = 1", "see 0 -1 0", "5 x see 8 6 0", "see 0 -1 0",
                "set 2 1", "fits 0 = 21", "see 4 6 0 = 1", "fits 0 = 20", "fits 1 = 1");
        edge("BAD: s (-8 .. 8), b, a (0 .. 6)", "see 9 0 0 = -2", "see -9 0 0 = -2", "see 0 -2 0 = -2", "see 0 7 0 = -2",
                "see 0 0 -1 = -2", "see 0 0 7 = -2", "see min 0 0 = -2", "see 0 min 0 = -2", "see 0 0 max = -2",
                "count 0 = 0");
        edge("FULL: 5", "4 x see 0 0 0", "see 0 0 0 = 5", "see 0 0 0 = -4", "see 9 0 0 = -2", "see 0 7 0 = -2",
                "count 0 = 5");
        promise(27);
        edge("FITS: what 0 how many, 1 the least", "fits 0 = 21", "fits 1 = 0", "set 2 1", "see 4 6 0", "fits 0 = 20",
                "fits 1 = 1", "see -4 0 6", "fits 0 = 20", "see 0 -1 0", "see 4 6 2", "see -4 2 6", "fits 0 = 1", "fits 1 = 0");
        edge("-5", "see 0 6 6", "see 0 0 0", "fits 0 = 0", "fits 1 = -5", "see 0 -1 0", "fits 1 = 0");
        edge("NONE", "fits -1 = -1", "fits 2 = -1", "fits max = -1");
    }

    private static void events() {
        promise(28);
        edge("A row comes to EVENTS: how many there are", "event 0 0 = 1", "event 0 99 = 2", "event 1 1 = 3", "event 1 8 = 4",
                "event 2 0 = 5", "event 2 8 = 6", "event 3 0 = 7", "event 3 3 = 8", "count 1 = 8");
        edge("(what -1: none then, 0, whatever the other is)", "event -1 0 = 0", "event 0 5 = 1", "event -1 max = 0",
                "count 1 = 0", "8 x event 0 5", "event -1 -1 = 0", "event 0 5 = 1", "event -1 0", "idle",
                "odds 0 5 1000", "set 2 1", "rival 1 0 0", "lay 0 1 0", "8 x event 3 1", "after = 3000000", "event -1 0",
                "after = 1500000", "event 0 0 = 1", "after = 2500000");
        edge("NONE: what", "event -2 0 = -1", "event 4 0 = -1", "event 4 100 = -1", "event min 0 = -1", "event max 0 = -1");
        edge("BAD: n (as it may be; 0 .. 3 by 3)", "event 0 -1 = -2", "event 0 100 = -2", "event 1 0 = -2", "event 1 9 = -2",
                "event 2 -1 = -2", "event 2 9 = -2", "event 3 -1 = -2", "event 3 4 = -2", "event 3 max = -2", "count 1 = 0");
        edge("FULL: 8", "7 x event 3 0", "event 0 0 = 8", "event 0 0 = -4", "event 0 100 = -2", "event 4 0 = -1",
                "count 1 = 8");
        promise(29);
        edge("AFTER", "after = 2371253", "event 2 0", "after = 0", "event 2 1", "after = 297600", "set 1 1", "event 1 4",
                "after = 297600");
        promise(30);
        edge("TAKEN; part 0 above, 1 below the line", "taken 2 3 0 = 37", "taken 2 3 1 = 100", "taken 6 6 0 = 0",
                "taken 6 6 1 = 1", "taken 0 1 0 = 1", "taken 0 1 1 = 1");
        edge("NO: b, a (0 .. 6), part", "taken -1 0 0 = NO", "taken 7 0 0 = NO", "taken 0 -1 0 = NO", "taken 0 7 0 = NO",
                "taken 0 0 -1 = NO", "taken 0 0 2 = NO", "taken min max 0 = NO");
        promise(31);
        edge("JUDGED from place i of a TAPE on", "tape 0 0 60", "9 x rule 0 6 6", "judge 0 0 0 = 0", "item 0 59 6",
                "judge 0 0 59 = 101", "judge 0 0 60 = 100", "judge 0 0 58 = 0", "judge 0 0 max = 100", "judge 0 0 min = 100");
        edge("NONE: side, tape", "judge -1 0 0 = -1", "judge 2 0 0 = -1", "judge 0 -1 0 = -1", "judge 0 6 0 = -1",
                "tape 0 1 1", "judge 2 0 0 = -1", "judge min max 0 = -1");
        edge("CAST: it is no row of bytes", "tape 0 1 9", "tape 1 2 9", "tape 2 3 0", "tape 3 4 9", "judge 0 0 0 = -12",
                "judge 1 1 0 = -12", "judge 0 2 0 = -12", "judge 0 3 0 = -12", "judge 0 0 -1 = -12", "judge 0 0 99 = -12",
                "judge 0 4 0 = 100", "tape 0 0 9", "judge 0 0 0 = 0");
    }

    private static void image() {
        promise(32);
        edge("THE IMAGE is taken: how many RIVALS", "image = 0", "8 x rival 0 0 0", "image = 8", "set 3 9", "image = 8",
                "set 3 1", "undo = 8", "told 3 = 9");
        promise(33);
        edge("All is as THE IMAGE: how many RIVALS", "rival 1 0 0", "lay 1 0 0", "lay 0 0 0", "image = 1", "7 x rival 0 0 0",
                "lay 0 1 7", "lay 0 0 -1", "street 1", "odds 0 0 0", "rule 8 0 0", "rule -8 0 0", "undo = 1", "told 7 = 1",
                "at 0 0 = 0", "at 0 1 = -5", "lay 0 1 7 = -1", "told 6 = 0", "odds 0 0 1 = 600", "ruled 8 0 = 6",
                "ruled -8 1 = 6", "undo = 1", "odds 0 0 2 = 600", "rival 2 0 0 = 1", "theirs 1 0 0 = 1", "undo = 1",
                "rival 0 5 5 = 1", "theirs 1 0 0 = 5");
        edge("STATE: there is none", "undo = -3", "rival 0 0 0", "undo = -3", "told 7 = 1", "image = 1", "undo = 1",
                "undo = 1");
        promise(34);
        edge("How many: 0 SEEN, 1 EVENTS, 2 bytes of THE TEXT, 3 of THE TICKET", "count 0 = 0", "count 1 = 0", "count 2 = 0",
                "count 3 = 12", "5 x see 0 0 0", "8 x event 0 0", "100 x feed 0", "quote 0 0", "trade 0", "count 0 = 5",
                "count 1 = 8", "count 2 = 100", "count 3 = 16", "read = -10", "count 2 = 0");
        edge("BAD", "count -1 = -2", "count 4 = -2", "count min = -2", "count max = -2");
    }

    private static void tapes() {
        promise(35);
        edge("A TAPE becomes a row of n (0 .. 60) of a sort, all 0", "tape 0 0 60 = 1", "item 0 59 7", "peek 0 60 = NO",
                "tape 0 0 60 = 1", "peek 0 59 = 0", "tape 0 3 0 = 1", "row 0:", "tape 5 4 1 = 1", "row 5: 0", "item 5 0 1",
                "tape 5 4 2 = 1", "row 5: 0 0");
        edge("or holds nothing (sort -1: n does not matter): 1", "tape 0 -1 0 = 1", "tape 0 0 5", "tape 0 -1 61 = 1",
                "item 0 0 0 = -11", "peek 0 0 = NO", "tape 0 -1 -1 = 1", "tape 0 -1 min = 1", "tape 0 -1 max = 1");
        edge("NONE: tape", "tape -1 0 0 = -1", "tape 6 0 0 = -1", "tape 6 -1 0 = -1", "tape 6 5 61 = -1", "tape min 0 -1 = -1");
        edge("BAD: sort, n above 60", "tape 0 -2 0 = -2", "tape 0 5 0 = -2", "tape 0 0 61 = -2", "tape 0 4 max = -2",
                "tape 0 5 -1 = -2", "tape 0 max 0 = -2", "tape 0 0 3", "tape 0 1 61 = -2", "row 0: 0 0 0");
        edge("SIZE", "tape 0 0 -1 = -14", "tape 0 4 min = -14", "tape 0 0 2", "item 0 0 5", "tape 0 2 -1 = -14", "row 0: 5 0");
        promise(36);
        edge("Item i of a TAPE becomes v (its lowest bits, as many as an item has", "tape 0 0 2", "item 0 1 127 = 1",
                "row 0: 0 127", "item 0 1 128 = 1", "row 0: 0 -128", "item 0 1 255 = 1", "row 0: 0 -1", "item 0 1 256 = 1",
                "row 0: 0 0", "item 0 0 -129 = 1", "row 0: 127 0", "tape 1 1 1", "item 1 0 32767 = 1", "row 1: 32767",
                "item 1 0 32768 = 1", "row 1: -32768", "item 1 0 65536 = 1", "row 1: 0", "item 1 0 -32769 = 1", "row 1: 32767",
                "tape 2 2 1", "item 2 0 2147483647 = 1", "row 2: 2147483647", "item 2 0 2147483648 = 1", "row 2: -2147483648",
                "item 2 0 4294967296 = 1", "row 2: 0", "item 2 0 -2147483649 = 1", "row 2: 2147483647", "tape 3 3 2",
                "item 3 0 9223372036854775807 = 1", "item 3 1 NO = 1", "peek 3 0 = 9223372036854775807", "peek 3 1 = NO");
        edge("booleans: whether v is not 0): 1", "tape 0 4 2", "item 0 1 1 = 1", "row 0: 0 1", "item 0 1 -1 = 1", "row 0: 0 1",
                "item 0 1 0 = 1", "row 0: 0 0", "item 0 1 256 = 1", "row 0: 0 1", "item 0 1 4294967296 = 1", "row 0: 0 1",
                "item 0 0 NO = 1", "row 0: 1 1");
        edge("NONE; NOTHING; PLACE", "item -1 0 0 = -1", "item 6 0 0 = -1", "item max 0 0 = -1", "item 6 99 0 = -1");
        edge("NOTHING", "item 0 0 0 = -11", "item 5 -1 0 = -11", "tape 0 0 1", "tape 0 -1 0", "item 0 0 0 = -11",
                "item 0 max 0 = -11");
        edge("PLACE", "tape 0 0 2", "item 0 -1 0 = -13", "item 0 2 0 = -13", "item 0 min 0 = -13", "item 0 max 0 = -13",
                "tape 0 0 0", "item 0 0 0 = -13");
        promise(37);
        edge("Item i of a TAPE", "tape 0 0 60", "item 0 59 3", "item 0 0 4", "peek 0 59 = 3", "peek 0 0 = 4");
        edge("NO: no such TAPE, nothing there, no such place", "peek -1 0 = NO", "peek 6 0 = NO", "peek 0 0 = NO",
                "tape 0 0 2", "peek 0 2 = NO", "peek 0 -1 = NO", "peek 0 min = NO", "peek 0 max = NO", "peek max 0 = NO",
                "tape 0 0 0", "peek 0 0 = NO", "tape 0 0 2", "tape 0 -1 0", "peek 0 0 = NO");
        shifts();
    }

    private static void shifts() {
        promise(38);
        edge("n items of a TAPE from i on come to another one (or the same) from j on, as they all were before: n",
                "tape 0 1 5", "item 0 0 1", "item 0 1 2", "item 0 2 3", "item 0 3 4", "item 0 4 5", "shift 0 0 0 1 4 = 4",
                "row 0: 1 1 2 3 4", "shift 0 1 0 0 4 = 4", "row 0: 1 2 3 4 4", "shift 0 0 0 0 5 = 5", "row 0: 1 2 3 4 4",
                "shift 0 5 0 5 0 = 0", "tape 1 1 2", "shift 0 3 1 0 2 = 2", "row 1: 4 4", "shift 0 0 1 2 0 = 0", "row 1: 4 4",
                "tape 2 0 0", "shift 2 0 2 0 0 = 0");
        edge("NONE: tapes", "shift -1 0 0 0 0 = -1", "shift 6 0 0 0 0 = -1", "shift 0 0 -1 0 0 = -1", "shift 0 0 6 0 0 = -1",
                "shift 6 -1 6 -1 -1 = -1", "tape 0 0 1", "shift 0 9 6 0 0 = -1", "shift min 0 max 0 0 = -1");
        edge("NOTHING", "shift 0 0 1 0 0 = -11", "tape 0 0 5", "shift 0 0 1 0 1 = -11", "shift 1 0 0 0 1 = -11",
                "shift 1 -1 0 -1 -1 = -11", "shift 0 9 1 9 9 = -11");
        edge("CAST: of unlike sorts", "tape 0 0 5", "tape 1 1 5", "tape 2 2 5", "tape 3 3 5", "tape 4 4 5",
                "shift 0 0 1 0 1 = -12", "shift 1 0 2 0 1 = -12", "shift 2 0 3 0 1 = -12", "shift 4 0 0 0 1 = -12",
                "shift 0 0 4 0 0 = -12", "shift 0 -1 1 9 9 = -12", "tape 5 0 0", "shift 0 5 5 0 0 = 0");
        edge("PLACE: n, i or j is below 0, or beyond either's end", "tape 0 0 5", "tape 1 0 3", "shift 0 0 1 0 -1 = -13",
                "shift 0 -1 1 0 0 = -13", "shift 0 0 1 -1 0 = -13", "shift 0 6 1 0 0 = -13", "shift 0 0 1 4 0 = -13",
                "shift 0 3 1 0 3 = -13", "shift 0 0 1 1 3 = -13", "shift 0 0 1 0 4 = -13", "shift 1 0 0 0 4 = -13",
                "shift 0 max 0 0 1 = -13", "shift 0 1 0 max 1 = -13", "shift 0 1 0 1 max = -13", "shift 0 max 0 max max = -13",
                "shift 0 min 0 min min = -13", "shift 0 2 1 0 3 = 3", "shift 0 5 1 3 0 = 0", "shift 0 0 0 0 6 = -13");
    }
}
