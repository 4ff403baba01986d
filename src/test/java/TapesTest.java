/** Promises 31 to 38: judging, the image, counts, tapes. */
public final class TapesTest {
    private static final int NONE = -1, BAD = -2, STATE = -3, ABSENT = -5;
    private static final int NOTHING = -11, CAST = -12, PLACE = -13, SIZE = -14;
    private static final long NO = Long.MIN_VALUE;

    private static final Due DUE = new Due("TapesTest");

    public static void main(String[] args) {
        promise31();
        promise32and33();
        promise34();
        promise35();
        promise36and37();
        promise38();
        promise38Refusals();
        DUE.end();
    }

    private static void promise31() {
        QuoteMind x = new QuoteMind();
        x.set(1, 2);
        for (int s = -2; s <= 2; s++) {
            x.rule(s, s + 2, 4 - s - 2);
        }
        DUE.is("31: the tape holds nothing", x.judge(0, 0, 0), 100);
        x.tape(0, 0, 6);
        for (int i = 0; i < 5; i++) {
            x.item(0, i + 1, i);
        }
        DUE.is("31: none", x.judge(0, 0, 1), ABSENT);
        DUE.is("31: the second", x.judge(0, 0, 0), 1);
        DUE.is("31: the first", x.judge(0, 0, 2), 0);
        DUE.is("31: the other side", x.judge(1, 0, 1), 0);
        x.item(0, 5, 6);
        DUE.is("31: the last", x.judge(0, 0, 1), 4);
        x.item(0, 5, -252);
        DUE.is("31: 4 by its lowest bits", x.judge(0, 0, 1), ABSENT);
        x.tape(1, 0, 4);
        x.shift(0, 1, 1, 0, 4);
        DUE.is("31: the row ends", x.judge(0, 1, 0), 104);
        DUE.is("31: the row ends", x.judge(0, 1, 4), 100);
        DUE.is("31: beyond the row", x.judge(0, 1, 5), 100);
        DUE.is("31: beyond the row", x.judge(0, 1, Integer.MAX_VALUE), 100);
        DUE.is("31: below 0", x.judge(0, 1, -1), 100);
        DUE.is("31: below 0", x.judge(0, 1, Integer.MIN_VALUE), 100);
        DUE.is("31: otherwise ahead of the end", x.judge(0, 1, 1), 0);
        for (int sort = 1; sort <= 4; sort++) {
            x.tape(2, sort, 6);
            DUE.is("31: no bytes", x.judge(0, 2, -1), CAST);
        }
        DUE.is("31: side", x.judge(2, 2, 0), NONE);
        DUE.is("31: side", x.judge(-1, 0, 0), NONE);
        DUE.is("31: tape", x.judge(0, 6, 0), NONE);
        DUE.is("31: tape", x.judge(0, -1, 0), NONE);
        QuoteMind wide = new QuoteMind();
        wide.set(1, 8);
        wide.tape(0, 0, 60);
        for (int i = 0; i < 60; i++) {
            wide.item(0, i, 6);
        }
        wide.rule(8, 6, 5);
        DUE.is("31: from -8 on", wide.judge(0, 0, 43), ABSENT);
        DUE.is("31: up to 8", wide.judge(1, 0, 43), 16);
        DUE.is("31: up to the end", wide.judge(1, 0, 44), 116);
    }

    private static void fill(QuoteMind x, int by) {
        int[] settings = {100, 5, 1, 3, 4, 7};
        for (int what = 0; what < 6; what++) {
            x.set(what, settings[what] + by);
        }
        x.odds(0, 3, 111 + by);
        x.odds(1, 5, 222 + by);
        x.rival(1, 0, 0);
        x.lay(0, 1, 0);
        x.lay(1, by, 0);
        x.street(by == 0 ? 1 : 0);
        x.rule(-8, by, 1);
        x.rule(8, 2, by);
        x.quote(0, 1 + by);
        x.quote(1, 2 + by);
        x.trade(1);
        x.trade(1);
        x.trade(0);
        x.see(0, -1, 0);
        x.see(by, x.best(by, 1, 0), x.best(by, 1, 1));
        x.event(-1, 0);
        x.event(by == 0 ? 0 : 2, by);
        x.event(3, by);
    }

    private static final String[] ASKED = {"told", "told", "told", "told", "told", "told", "told", "told", "told", "told",
        "told", "told", "at", "at", "chance", "chance", "ruled", "ruled", "ruled", "middle", "middle", "fits", "after",
        "count", "count", "count", "worth", "meeting"};
    private static final long[][] WITH = {{0}, {1}, {2}, {3}, {4}, {5}, {6}, {7}, {8}, {9}, {10}, {11}, {0, 1}, {1, 0},
        {0, 3}, {1, 5}, {-8, 0}, {8, 1}, {8, 0}, {0}, {1}, {0}, {}, {0}, {1}, {3}, {0, 3, 1}, {0, 5}};

    private static long[] answers(QuoteMind x) {
        long[] answers = new long[ASKED.length];
        for (int i = 0; i < answers.length; i++) {
            answers[i] = Calls.ask(x, ASKED[i], WITH[i]);
        }
        return answers;
    }

    private static void promise32and33() {
        QuoteMind x = new QuoteMind();
        DUE.is("33: there is none", x.undo(), STATE);
        fill(x, 0);
        long[] was = answers(x);
        DUE.is("32: image", x.image(), 1);
        x.tape(0, 0, 1);
        x.feed('h');
        for (int again = 0; again < 2; again++) {
            fill(x, 1 + again);
            x.item(0, 0, 5 + again);
            long[] other = answers(x);
            for (int i = 0; i < 6; i++) {
                DUE.holds("33: told(" + i + ") was changed", was[i] != other[i]);
            }
            DUE.is("33: undo", x.undo(), 1);
            long[] then = answers(x);
            for (int i = 0; i < was.length; i++) {
                DUE.is("33: " + ASKED[i], then[i], was[i]);
            }
            DUE.is("33: tapes stay", x.peek(0, 0), 5 + again);
            DUE.is("33: the text stays", x.count(2), 1);
        }
        x.see(0, -1, 0);
        x.event(-1, 0);
        DUE.is("33: undo", x.undo(), 1);
        DUE.is("33: SEEN", x.count(0), 1);
        DUE.is("33: EVENTS", x.count(1), 2);
        DUE.is("33: a RIVAL that came later is gone", x.theirs(1, 0, 0), NONE);
        DUE.is("33: a number comes again", x.rival(3, 1, 1), 1);
        DUE.is("33: another kind", x.theirs(1, 0, 5), 3);
        DUE.is("32: image", x.image(), 2);
        x.rival(0, 0, 0);
        DUE.is("33: the last image", x.undo(), 2);
    }

    private static void promise34() {
        QuoteMind x = new QuoteMind();
        x.see(0, 0, 0);
        x.event(0, 0);
        x.event(0, 0);
        x.feed(1);
        x.feed(1);
        x.feed(1);
        int[] counts = {1, 2, 3, 12};
        for (int what = 0; what < 4; what++) {
            DUE.is("34: count(" + what + ")", x.count(what), counts[what]);
        }
        DUE.is("34: what", x.count(4), BAD);
        DUE.is("34: what", x.count(-1), BAD);
    }

    private static void promise35() {
        QuoteMind x = new QuoteMind();
        DUE.is("35: bytes", x.tape(0, 0, 60), 1);
        DUE.is("35: first", x.peek(0, 0), 0);
        DUE.is("35: last", x.peek(0, 59), 0);
        DUE.is("35: behind", x.peek(0, 60), NO);
        x.item(0, 1, 1);
        DUE.is("35: again", x.tape(0, 4, 2), 1);
        DUE.is("35: all 0", x.peek(0, 1), 0);
        DUE.is("35: shorter", x.peek(0, 2), NO);
        DUE.is("35: nothing in it", x.tape(1, 3, 0), 1);
        DUE.is("35: a row of none is there", x.item(1, 0, 0), PLACE);
        DUE.is("35: nothing, n does not matter", x.tape(1, -1, 99), 1);
        DUE.is("35: nothing", x.item(1, 0, 0), NOTHING);
        DUE.is("35: nothing", x.peek(1, 0), NO);
        DUE.is("35: nothing, n does not matter", x.tape(1, -1, -99), 1);
        DUE.is("35: tape", x.tape(6, 9, 0), NONE);
        DUE.is("35: tape", x.tape(-1, 0, 0), NONE);
        DUE.is("35: tape ahead of all", x.tape(6, -1, 0), NONE);
        DUE.is("35: sort ahead of size", x.tape(0, 5, -1), BAD);
        DUE.is("35: sort", x.tape(0, -2, 1), BAD);
        DUE.is("35: n", x.tape(0, 0, 61), BAD);
        DUE.is("35: size", x.tape(0, 0, -1), SIZE);
        DUE.is("35: size", x.tape(0, 4, Integer.MIN_VALUE), SIZE);
        DUE.is("35: refused changes nothing", x.peek(0, 1), 0);
    }

    private static void promise36and37() {
        QuoteMind x = new QuoteMind();
        long[] put = {0, 1, 127, 128, 255, 256, -1, 32768, 65536, 1L << 31, 1L << 32, Long.MAX_VALUE, Long.MIN_VALUE};
        for (int sort = 0; sort <= 4; sort++) {
            x.tape(sort, sort, 3);
            for (long v : put) {
                DUE.is("36: item", x.item(sort, 2, v), 1);
                long[] held = {(byte) v, (short) v, (int) v, v, v != 0 ? 1 : 0};
                DUE.is("37: sort " + sort + " of " + v, x.peek(sort, 2), held[sort]);
            }
            DUE.is("37: its neighbour", x.peek(sort, 1), 0);
            DUE.is("36: place", x.item(sort, 3, 1), PLACE);
            DUE.is("36: place", x.item(sort, -1, 1), PLACE);
            DUE.is("37: place", x.peek(sort, 3), NO);
            DUE.is("37: place", x.peek(sort, -1), NO);
        }
        DUE.is("36: tape", x.item(6, 0, 0), NONE);
        DUE.is("36: tape", x.item(-1, 0, 0), NONE);
        DUE.is("36: nothing ahead of place", x.item(5, -1, 0), NOTHING);
        DUE.is("37: tape", x.peek(6, 0), NO);
        DUE.is("37: tape", x.peek(-1, 0), NO);
        DUE.is("37: nothing", x.peek(5, 0), NO);
    }

    private static void promise38() {
        QuoteMind x = new QuoteMind();
        x.tape(0, 2, 5);
        x.tape(1, 2, 3);
        for (int i = 0; i < 5; i++) {
            x.item(0, i, i + 1);
        }
        DUE.is("38: forwards", x.shift(0, 0, 0, 1, 4), 4);
        long[] forwards = {1, 1, 2, 3, 4};
        for (int i = 0; i < 5; i++) {
            DUE.is("38: as they were", x.peek(0, i), forwards[i]);
        }
        DUE.is("38: backwards", x.shift(0, 2, 0, 0, 3), 3);
        long[] backwards = {2, 3, 4, 3, 4};
        for (int i = 0; i < 5; i++) {
            DUE.is("38: as they were", x.peek(0, i), backwards[i]);
        }
        DUE.is("38: another one", x.shift(0, 1, 1, 1, 2), 2);
        long[] other = {0, 3, 4};
        for (int i = 0; i < 3; i++) {
            DUE.is("38: another one", x.peek(1, i), other[i]);
        }
        DUE.is("38: none, at the ends", x.shift(0, 5, 1, 3, 0), 0);
    }

    private static void promise38Refusals() {
        QuoteMind x = new QuoteMind();
        x.tape(0, 0, 5);
        x.tape(1, 0, 3);
        x.tape(2, 1, 5);
        DUE.is("38: tape", x.shift(6, 0, 0, 0, 0), NONE);
        DUE.is("38: tape", x.shift(-1, 0, 0, 0, 0), NONE);
        DUE.is("38: other ahead of nothing", x.shift(5, 0, 6, 0, 0), NONE);
        DUE.is("38: other", x.shift(0, 0, -1, 0, 0), NONE);
        DUE.is("38: nothing", x.shift(5, 0, 0, 0, -1), NOTHING);
        DUE.is("38: nothing", x.shift(0, 0, 5, 0, 0), NOTHING);
        DUE.is("38: cast ahead of place", x.shift(0, 0, 2, 0, 9), CAST);
        DUE.is("38: n", x.shift(0, 0, 1, 0, -1), PLACE);
        DUE.is("38: i", x.shift(0, -1, 1, 0, 1), PLACE);
        DUE.is("38: j", x.shift(0, 0, 1, -1, 1), PLACE);
        DUE.is("38: beyond its end", x.shift(0, 3, 1, 0, 3), PLACE);
        DUE.is("38: beyond its end", x.shift(0, 6, 1, 0, 0), PLACE);
        DUE.is("38: beyond the other's end", x.shift(0, 0, 1, 1, 3), PLACE);
        DUE.is("38: beyond the other's end", x.shift(0, 0, 1, 4, 0), PLACE);
        DUE.is("38: far", x.shift(0, Integer.MAX_VALUE, 1, 0, 1), PLACE);
        DUE.is("38: far", x.shift(0, 1, 1, Integer.MAX_VALUE, 1), PLACE);
        DUE.is("38: far", x.shift(0, 1, 1, 1, Integer.MAX_VALUE), PLACE);
        DUE.is("38: far", x.shift(0, Integer.MIN_VALUE, 1, 1, Integer.MIN_VALUE), PLACE);
        x.item(0, 4, 9);
        DUE.is("38: up to the ends", x.shift(0, 2, 1, 0, 3), 3);
        DUE.is("38: up to the ends", x.peek(1, 2), 9);
    }
}
