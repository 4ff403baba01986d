/** Promises 1 to 11: a new object, settings, ODDS, RIVALS, DECKS, CHANCES. */
public final class MarketTest {
    private static final int NONE = -1, BAD = -2, FULL = -4, ABSENT = -5, CAST = -12, PLACE = -13;
    private static final int[] ODDS = {600, 400, 250, 120, 50, 10};

    private static final Due DUE = new Due("MarketTest");

    public static void main(String[] args) {
        promise1();
        promise2();
        promise3();
        promise4();
        promise5();
        promise6();
        promise7and8();
        promise9();
        promise10();
        promise11();
        DUE.end();
    }

    private static void promise1() {
        QuoteMind x = new QuoteMind();
        long[] told = {1000, 4, 4, 2, 5, 1, 0, 0, 6, 6, 0, 0};
        for (int what = 0; what < told.length; what++) {
            DUE.is("1: told(" + what + ")", x.told(what), told[what]);
        }
        for (int side = 0; side <= 1; side++) {
            for (int d = 0; d < 6; d++) {
                DUE.is("1: chance(" + side + ", " + d + ")", x.chance(side, d), ODDS[d]);
            }
            for (int s = -8; s <= 8; s++) {
                DUE.is("1: ruled(" + s + ", " + side + ")", x.ruled(s, side), 6);
            }
        }
        for (int deck = 0; deck < 3; deck++) {
            for (int place = 0; place < 4; place++) {
                DUE.is("1: at(" + deck + ", " + place + ")", x.at(deck, place), ABSENT);
            }
        }
        for (int tape = 0; tape < 6; tape++) {
            DUE.is("1: peek", x.peek(tape, 0), Long.MIN_VALUE);
            DUE.is("1: item", x.item(tape, 0, 1), -11);
        }
        DUE.is("1: undo", x.undo(), -3);
        DUE.is("1: middle", x.middle(0), Double.doubleToLongBits(1000.0));
        DUE.is("1: spread", x.middle(1), 0);
        int[] counts = {0, 0, 0, 12};
        for (int what = 0; what < 4; what++) {
            DUE.is("1: count(" + what + ")", x.count(what), counts[what]);
        }
    }

    private static void promise2() {
        int[][] spans = {{100, 9999, 1000}, {1, 8, 4}, {0, 8, 4}, {0, 99, 2}, {0, 99, 5}, {1, 1000000, 1}};
        QuoteMind x = new QuoteMind();
        for (int what = 0; what < 6; what++) {
            int least = spans[what][0];
            int most = spans[what][1];
            DUE.is("2: below", x.set(what, least - 1), BAD);
            DUE.is("2: above", x.set(what, most + 1), BAD);
            DUE.is("2: lowest int", x.set(what, Integer.MIN_VALUE), BAD);
            DUE.is("2: least", x.set(what, least), spans[what][2]);
            DUE.is("2: told", x.told(what), least);
            DUE.is("2: most", x.set(what, most), least);
            DUE.is("2: refused changes nothing", x.set(what, most + 1), BAD);
            DUE.is("2: told", x.told(what), most);
        }
        DUE.is("2: what -1", x.set(-1, 1), NONE);
        DUE.is("2: what 6", x.set(6, -1), NONE);
    }

    private static void promise3() {
        QuoteMind x = new QuoteMind();
        x.street(2);
        x.rival(0, 0, 0);
        x.quote(0, 1);
        x.quote(1, 3);
        x.trade(1);
        long[] told = {1000, 4, 4, 2, 5, 1, 2, 1, 1, 3, -1, 1003};
        for (int what = 0; what < told.length; what++) {
            DUE.is("3: told(" + what + ")", x.told(what), told[what]);
        }
        DUE.is("3: 12", x.told(12), QuoteMind.NO);
        DUE.is("3: -1", x.told(-1), QuoteMind.NO);
    }

    private static void promise4() {
        QuoteMind x = new QuoteMind();
        DUE.is("4: bid", x.odds(0, 2, 1000), 250);
        DUE.is("4: bid again", x.odds(0, 2, 0), 1000);
        DUE.is("4: ask is another", x.odds(1, 2, 7), 250);
        DUE.is("4: chance", x.chance(1, 2), 7);
        DUE.is("4: side", x.odds(2, 0, 1), NONE);
        DUE.is("4: side", x.odds(-1, 0, 1), NONE);
        DUE.is("4: distance", x.odds(0, 6, 1), NONE);
        DUE.is("4: distance", x.odds(0, -1, -1), NONE);
        DUE.is("4: v", x.odds(0, 0, 1001), BAD);
        DUE.is("4: v", x.odds(0, 0, -1), BAD);
        DUE.is("4: refused changes nothing", x.odds(0, 0, 600), 600);
    }

    private static void promise5() {
        QuoteMind x = new QuoteMind();
        DUE.is("5: kind ahead of x", x.rival(4, 7, 0), NONE);
        DUE.is("5: kind", x.rival(-1, 0, 0), NONE);
        DUE.is("5: x", x.rival(0, 7, 0), BAD);
        DUE.is("5: x", x.rival(1, -1, 0), BAD);
        DUE.is("5: y", x.rival(2, 0, 7), BAD);
        DUE.is("5: y", x.rival(3, 0, -1), BAD);
        for (int i = 0; i < 8; i++) {
            DUE.is("5: number", x.rival(i % 4, i % 7, 6), i);
        }
        DUE.is("5: full", x.rival(0, 0, 0), FULL);
        DUE.is("5: x ahead of full", x.rival(0, 7, 0), BAD);
        DUE.is("5: kind ahead of full", x.rival(4, 0, 0), NONE);
        DUE.is("5: told", x.told(7), 8);
        DUE.is("6: rival", x.theirs(8, 0, 0), NONE);
        DUE.is("7: rival", x.lay(0, 0, 8), NONE);
    }

    private static void promise6() {
        QuoteMind x = new QuoteMind();
        x.rival(0, 2, 5);
        x.rival(1, 6, 6);
        x.rival(2, 6, 6);
        x.rival(3, 2, 6);
        x.rival(3, 0, 6);
        for (int d = 0; d < 6; d++) {
            DUE.is("6: still, bid", x.theirs(0, 0, d), 2);
            DUE.is("6: still, ask", x.theirs(0, 1, d), 5);
            DUE.is("6: keen", x.theirs(1, 0, d), new int[] {0, 0, 1, 2, 3, 4}[d]);
            DUE.is("6: shy", x.theirs(2, 1, d), d + 1);
            DUE.is("6: keener", x.theirs(3, 0, d), new int[] {0, 0, 0, 0, 1, 2}[d]);
            DUE.is("6: keener by 0", x.theirs(4, 1, d), new int[] {0, 0, 1, 2, 3, 4}[d]);
        }
        DUE.is("6: rival", x.theirs(5, 0, 0), NONE);
        DUE.is("6: rival", x.theirs(-1, 0, 0), NONE);
        DUE.is("6: side ahead of d", x.theirs(0, 2, 6), NONE);
        DUE.is("6: side", x.theirs(0, -1, 0), NONE);
        DUE.is("6: d", x.theirs(0, 0, 6), BAD);
        DUE.is("6: d", x.theirs(0, 0, -1), BAD);
    }

    private static QuoteMind withKinds() {
        QuoteMind x = new QuoteMind();
        for (int kind = 0; kind < 4; kind++) {
            x.rival(kind, 1, 1);
        }
        return x;
    }

    private static void promise7and8() {
        QuoteMind x = withKinds();
        int[][] takes = {{ABSENT, ABSENT, ABSENT, ABSENT}, {CAST, ABSENT, CAST, ABSENT}, {CAST, CAST, ABSENT, CAST}};
        for (int deck = 0; deck < 3; deck++) {
            for (int kind = 0; kind < 4; kind++) {
                DUE.is("7: deck " + deck + " kind " + kind, x.lay(deck, kind, kind), takes[deck][kind]);
                DUE.is("8: deck " + deck + " kind " + kind, x.at(deck, kind), takes[deck][kind] == CAST ? ABSENT : kind);
            }
        }
        DUE.is("7: whom it held", x.lay(0, 3, -1), 3);
        DUE.is("7: nobody", x.lay(0, 3, 0), ABSENT);
        DUE.is("7: place ahead of cast", x.lay(1, 4, 0), PLACE);
        DUE.is("7: place", x.lay(0, -1, 0), PLACE);
        DUE.is("7: rival ahead of place", x.lay(0, 4, 4), NONE);
        DUE.is("7: rival -2", x.lay(0, 0, -2), NONE);
        DUE.is("7: deck", x.lay(3, 0, 0), NONE);
        DUE.is("7: deck", x.lay(-1, 0, 0), NONE);
        DUE.is("7: cast changes nothing", x.lay(1, 1, 0), CAST);
        DUE.is("7: it stays", x.at(1, 1), 1);
        DUE.is("8: deck", x.at(3, 0), NONE);
        DUE.is("8: deck", x.at(-1, 9), NONE);
        DUE.is("8: place", x.at(0, 4), PLACE);
        DUE.is("8: place", x.at(0, -1), PLACE);
    }

    private static void promise9() {
        QuoteMind x = new QuoteMind();
        DUE.is("9: first", x.street(2), 0);
        DUE.is("9: second", x.street(1), 2);
        DUE.is("9: none", x.street(3), NONE);
        DUE.is("9: none", x.street(-1), NONE);
        DUE.is("9: told", x.told(6), 1);
    }

    private static void promise10() {
        QuoteMind x = withKinds();
        x.lay(0, 0, 1);
        x.lay(0, 2, 3);
        x.lay(0, 3, 0);
        x.lay(1, 1, 1);
        x.lay(1, 3, 3);
        DUE.is("10: three come", x.copy(0, 1), 3);
        int[] then = {1, ABSENT, 3, 3};
        for (int place = 0; place < 4; place++) {
            DUE.is("10: at(1, " + place + ")", x.at(1, place), then[place]);
        }
        DUE.is("10: all come", x.copy(1, 0), 4);
        DUE.is("10: the last came", x.at(0, 3), 3);
        DUE.is("10: keen ones are not shy", x.copy(1, 2), 0);
        x.lay(2, 0, 2);
        DUE.is("10: shy ones are not keen", x.copy(2, 1), 0);
        DUE.is("10: it stays", x.at(1, 0), 1);
        DUE.is("10: the same", x.copy(2, 2), 4);
        DUE.is("10: from", x.copy(3, 0), NONE);
        DUE.is("10: to", x.copy(0, -1), NONE);
        DUE.is("10: from", x.copy(-1, 0), NONE);
        DUE.is("10: to", x.copy(0, 3), NONE);
    }

    private static void promise11() {
        QuoteMind x = withKinds();
        x.odds(0, 2, 999);
        x.odds(0, 1, 7);
        x.odds(0, 0, 3);
        x.lay(0, 0, 0);
        DUE.is("11: below mine: half, cut", x.chance(0, 2), 499);
        DUE.is("11: mine: three quarters, cut", x.chance(0, 1), 5);
        DUE.is("11: above mine: all", x.chance(0, 0), 3);
        x.lay(0, 3, 2);
        DUE.is("11: shy ones never", x.chance(0, 1), 5);
        x.lay(0, 1, 1);
        DUE.is("11: keen ones at 0", x.chance(0, 0), 2);
        x.odds(0, 1, 9);
        DUE.is("11: 9, 6 (still), 3 (keen)", x.chance(0, 1), 3);
        x.lay(0, 0, 1);
        x.lay(0, 1, 0);
        DUE.is("11: 9, 4 (keen), 3 (still)", x.chance(0, 1), 3);
        x.odds(0, 1, 11);
        DUE.is("11: 11, 5 (keen), 3 (still)", x.chance(0, 1), 3);
        x.lay(0, 0, 0);
        x.lay(0, 1, 1);
        DUE.is("11: 11, 8 (still), 4 (keen)", x.chance(0, 1), 4);
        x.street(1);
        DUE.is("11: another street", x.chance(0, 1), 11);
        DUE.is("11: no quote", x.chance(1, 6), 0);
        DUE.is("11: side", x.chance(2, 7), NONE);
        DUE.is("11: side", x.chance(-1, 0), NONE);
        DUE.is("11: d", x.chance(0, 7), BAD);
        DUE.is("11: d", x.chance(0, -1), BAD);
    }
}
