/** Promises 26 to 30: SEEN, FITS, EVENTS, AFTER, TAKEN. */
public final class SeenTest {
    private static final int NONE = -1, BAD = -2, FULL = -4, ABSENT = -5;
    private static final long NO = Long.MIN_VALUE;

    private static final Due DUE = new Due("SeenTest");

    public static void main(String[] args) {
        promise26();
        promise27();
        promise27Rows();
        promise27ByStreet();
        promise28();
        promise29();
        promise29Places();
        promise30();
        DUE.end();
    }

    private static void promise26() {
        QuoteMind x = new QuoteMind();
        DUE.is("26: s", x.see(9, 0, 0), BAD);
        DUE.is("26: s", x.see(-9, 0, 0), BAD);
        DUE.is("26: b", x.see(0, 7, 0), BAD);
        DUE.is("26: b", x.see(0, -2, 0), BAD);
        DUE.is("26: a", x.see(0, 0, 7), BAD);
        DUE.is("26: a", x.see(0, 0, -1), BAD);
        for (int i = 1; i <= 5; i++) {
            DUE.is("26: how many", x.see(i == 1 ? -8 : 8, 6, 0), i);
        }
        DUE.is("26: full", x.see(0, 0, 0), FULL);
        DUE.is("26: bad ahead of full", x.see(9, 0, 0), BAD);
        DUE.is("34: seen", x.count(0), 5);
        DUE.is("26: none, whatever the others are", x.see(99, -1, -99), 0);
        DUE.is("34: seen", x.count(0), 0);
        DUE.is("26: first again", x.see(0, 0, 0), 1);
    }

    private static void promise27() {
        QuoteMind x = new QuoteMind();
        DUE.is("27: nothing seen", x.fits(0), 21);
        DUE.is("27: nothing seen", x.fits(1), 0);
        x.set(2, 1);
        x.see(0, 3, 3);
        int many = 0;
        int least = ABSENT;
        QuoteMind y = new QuoteMind();
        for (int fine = 0; fine <= 20; fine++) {
            y.set(3, fine);
            if (y.best(0, 1, 0) == 3 && y.best(0, 1, 1) == 3) {
                least = many == 0 ? fine : least;
                many++;
            }
        }
        DUE.holds("27: some, not all", many > 0 && many < 21 && least > 0);
        DUE.is("27: how many", x.fits(0), many);
        DUE.is("27: the least", x.fits(1), least);
        DUE.is("27: changes nothing", x.told(3), 2);
        DUE.is("27: changes nothing", x.value(0, 1), 297600);
        x.set(3, 99);
        DUE.is("27: FINE does not matter", x.fits(0), many);
        x.see(0, 3, 2);
        DUE.is("27: both may not be", x.fits(0), 0);
        DUE.is("27: both may not be", x.fits(1), ABSENT);
        x.see(0, -1, 0);
        x.see(5, 6, 0);
        DUE.is("27: beyond LIMIT", x.fits(0), 0);
        x.set(1, 5);
        // Without a FINE an ASK of 0 is worth nothing; with any, a trade back is.
        DUE.is("27: within LIMIT", x.fits(0), 20);
        DUE.is("27: within LIMIT", x.fits(1), 1);
        x.set(1, 4);
        DUE.is("27: beyond LIMIT again", x.fits(0), 0);
        x.see(0, -1, 0);
        x.see(0, 0, 0);
        x.set(2, 0);
        DUE.is("27: no rounds", x.fits(0), 0);
        x.see(0, -1, 0);
        DUE.is("27: no rounds, nothing seen", x.fits(0), 21);
        DUE.is("27: what", x.fits(2), NONE);
        DUE.is("27: what", x.fits(-1), NONE);
    }

    private static void promise27Rows() {
        QuoteMind x = new QuoteMind();
        for (int i = 0; i < 5; i++) {
            x.see(8, 6, 0);
        }
        DUE.is("27: five beyond LIMIT", x.fits(0), 0);
        x.see(0, -1, 0);
        x.see(0, x.best(0, 4, 0), x.best(0, 4, 1));
        DUE.holds("27: what was seen before is over", x.fits(0) > 0);
        for (int i = 0; i < 4; i++) {
            x.see(0, x.best(0, 4, 0), x.best(0, 4, 1));
        }
        DUE.holds("27: five of the same", x.fits(0) > 0);
        x.see(0, -1, 0);
        for (int i = 0; i < 5; i++) {
            x.see(0, x.best(0, 4, 0), i < 4 ? x.best(0, 4, 1) : 6);
        }
        DUE.is("27: the fifth is not so", x.fits(0), 0);
    }

    private static void promise27ByStreet() {
        QuoteMind x = new QuoteMind();
        QuoteMind y = new QuoteMind();
        x.rival(0, 0, 6);
        y.rival(0, 0, 6);
        for (int place = 0; place < 4; place++) {
            x.lay(0, place, 0);
            y.lay(0, place, 0);
            x.see(0, -1, 0);
            x.see(0, x.best(0, 4, 0), x.best(0, 4, 1));
            int many = 0;
            for (int fine = 0; fine <= 20; fine++) {
                y.set(3, fine);
                if (y.best(0, 4, 0) == x.best(0, 4, 0) && y.best(0, 4, 1) == x.best(0, 4, 1)) {
                    many++;
                }
            }
            DUE.is("27: by THE STREET", x.fits(0), many);
        }
    }

    private static void promise28() {
        QuoteMind x = new QuoteMind();
        int[][] spans = {{0, 99}, {1, 8}, {0, 8}, {0, 3}};
        for (int what = 0; what < 4; what++) {
            DUE.is("28: below", x.event(what, spans[what][0] - 1), BAD);
            DUE.is("28: above", x.event(what, spans[what][1] + 1), BAD);
            DUE.is("28: least", x.event(what, spans[what][0]), 2 * what + 1);
            DUE.is("28: most", x.event(what, spans[what][1]), 2 * what + 2);
        }
        DUE.is("28: full", x.event(0, 0), FULL);
        DUE.is("28: bad ahead of full", x.event(0, 100), BAD);
        DUE.is("28: what ahead of n", x.event(4, 100), NONE);
        DUE.is("28: what", x.event(-2, 0), NONE);
        DUE.is("34: events", x.count(1), 8);
        DUE.is("28: none, whatever n is", x.event(-1, 999), 0);
        DUE.is("34: events", x.count(1), 0);
        DUE.is("28: first again", x.event(0, 0), 1);
    }

    private static void promise29() {
        QuoteMind x = new QuoteMind();
        DUE.is("29: nothing happens", x.after(), x.value(0, 4));
        int[] setting = {3, 1, 2};
        for (int what = 0; what < 3; what++) {
            QuoteMind one = new QuoteMind();
            x.event(-1, 0);
            x.event(what, 1);
            one.set(setting[what], 1);
            DUE.is("29: one event", x.after(), one.value(0, (int) one.told(2)));
        }
        x.event(-1, 0);
        x.rival(1, 0, 0);
        x.lay(0, 1, 0);
        x.lay(0, 2, 0);
        QuoteMind y = new QuoteMind();
        y.rival(1, 0, 0);
        y.lay(0, 2, 0);
        y.set(3, 7);
        y.set(1, 2);
        x.event(0, 1);
        x.event(3, 1);
        x.event(3, 1);
        x.event(0, 7);
        x.event(1, 2);
        x.event(2, 8);
        x.event(2, 5);
        DUE.is("29: the last ones count", x.after(), y.value(0, 5));
        DUE.is("29: changes nothing", x.at(0, 1), 0);
        DUE.is("29: changes nothing", x.told(3) * 100 + x.told(1) * 10 + x.told(2), 244);
        x.street(1);
        y.street(1);
        DUE.is("29: by THE STREET as it is", x.after(), y.value(0, 5));
        x.lay(1, 2, 0);
        y.lay(1, 2, 0);
        DUE.is("29: by THE STREET as it is", x.after(), y.value(0, 5));
        x.event(2, 0);
        DUE.is("29: no rounds", x.after(), 0);
    }

    private static void promise29Places() {
        for (int place = 0; place < 4; place++) {
            QuoteMind x = new QuoteMind();
            x.rival(0, 0, 0);
            x.lay(0, place, 0);
            long with = x.value(0, 4);
            DUE.is("29: nothing happens", x.after(), with);
            x.lay(0, place, -1);
            long without = x.value(0, 4);
            DUE.holds("29: a RIVAL matters", with != without);
            x.lay(0, place, 0);
            for (int gone = 0; gone < 4; gone++) {
                x.event(3, gone);
                DUE.is("29: place " + gone + " of a RIVAL at " + place, x.after(), gone == place ? without : with);
                x.event(-1, 0);
                DUE.is("29: nothing any more", x.after(), with);
            }
            x.event(0, 50);
            x.event(-1, 0);
            DUE.is("29: nothing any more", x.after(), with);
            for (int gone = 0; gone < 8; gone++) {
                x.event(3, gone < 7 ? (place + 1) % 4 : place);
            }
            DUE.is("29: the eighth", x.after(), without);
        }
    }

    private static void promise30() {
        QuoteMind x = new QuoteMind();
        DUE.is("30: 1200 by 1000", x.taken(0, 0, 0), 6);
        DUE.is("30: 1200 by 1000", x.taken(0, 0, 1), 5);
        DUE.is("30: 10 by 1000", x.taken(6, 5, 0), 1);
        DUE.is("30: 10 by 1000", x.taken(5, 6, 1), 100);
        DUE.is("30: none", x.taken(6, 6, 0), 0);
        DUE.is("30: none", x.taken(6, 6, 1), 1);
        x.odds(0, 0, 1000);
        x.odds(1, 0, 1000);
        DUE.is("30: two", x.taken(0, 0, 0), 2);
        DUE.is("30: two", x.taken(0, 0, 1), 1);
        x.odds(0, 0, 1);
        x.odds(1, 0, 0);
        DUE.is("30: one of 1000", x.taken(0, 0, 1), 1000);
        x.rival(0, 0, 0);
        x.lay(0, 0, 0);
        DUE.is("30: by CHANCES", x.taken(0, 0, 0), 0);
        x.odds(0, 1, 10);
        x.odds(1, 1, 20);
        DUE.is("30: halves, (5 + 10) by 1000", x.taken(1, 1, 0), 3);
        DUE.is("30: halves, (5 + 10) by 1000", x.taken(1, 1, 1), 200);
        DUE.is("30: b", x.taken(7, 0, 0), NO);
        DUE.is("30: b", x.taken(-1, 0, 0), NO);
        DUE.is("30: a", x.taken(0, 7, 0), NO);
        DUE.is("30: a", x.taken(0, -1, 0), NO);
        DUE.is("30: part", x.taken(0, 0, 2), NO);
        DUE.is("30: part", x.taken(0, 0, -1), NO);
    }
}
