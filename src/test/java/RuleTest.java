/** Promises 12 to 20: VALUE, BEST, THE RULE, WORTH, LOSS; RESERVE, MEETING, MIDDLE. */
public final class RuleTest {
    private static final int NONE = -1, BAD = -2;
    private static final long NO = Long.MIN_VALUE;

    private static final Due DUE = new Due("RuleTest");

    public static void main(String[] args) {
        promise12();
        promise13();
        promise14and17();
        promise15();
        promise16();
        promise18();
        promise19();
        promise20();
        DUE.end();
    }

    /** Nobody takes a quote, but for one distance of each side. */
    private static QuoteMind onlyAt(int bid, int bidOdds, int ask, int askOdds) {
        QuoteMind x = new QuoteMind();
        for (int d = 0; d < 6; d++) {
            x.odds(0, d, d == bid ? bidOdds : 0);
            x.odds(1, d, d == ask ? askOdds : 0);
        }
        return x;
    }

    private static void promise12() {
        QuoteMind x = new QuoteMind();
        x.set(3, 99);
        x.set(1, 8);
        DUE.is("12: fine", x.value(8, 0), -99L * 64 * 1000000);
        DUE.is("12: fine", x.value(-3, 0), -99L * 9 * 1000000);
        DUE.is("12: s", x.value(9, 0), NO);
        DUE.is("12: s", x.value(-9, 0), NO);
        DUE.is("12: s", x.value(Integer.MIN_VALUE, 0), NO);
        x.set(1, 2);
        DUE.is("12: s is within LIMIT", x.value(2, 0), -396000000);
        DUE.is("12: s is beyond LIMIT", x.value(3, 0), NO);
        DUE.is("12: s is beyond LIMIT", x.value(-3, 0), NO);
        DUE.is("12: t", x.value(0, 9), NO);
        DUE.is("12: t", x.value(0, -1), NO);

        QuoteMind sure = onlyAt(5, 1000, 5, 1000);
        DUE.is("12: both, 5 and 5 each round", sure.value(0, 8), 80000000);
        DUE.is("12: at the bound none is bought", sure.value(4, 1), -18000000 + 5000000);
        DUE.is("12: at the other bound none is sold", sure.value(-4, 1), -18000000 + 5000000);

        QuoteMind down = onlyAt(1, 1, 6, 0);
        down.set(3, 1);
        // 0.001 times (-1 + 1), 0.999 times 0: nothing; the second round the same.
        DUE.is("12: even", down.value(0, 1), 0);
        // A seller at -1: 1 of 1000 comes to 0 (and 1 million): 0.001 * 1000000 - 0.999 * 1000000.
        DUE.is("12: below 0", down.value(-1, 1), -998000);
        // 0.001 * 1000000 (from 0, and 1 million) - 0.999 * 998000 = -996002
        DUE.is("12: two rounds", down.value(-1, 2), -996002);
        // 0.001 * 1000000 - 0.999 * 996002 = 1000 - 995005.998 = -994005.998: down
        DUE.is("12: rounded down, not towards 0", down.value(-1, 3), -994006);
    }

    private static void promise13() {
        QuoteMind x = new QuoteMind();
        DUE.is("13: bid", x.best(0, 1, 0), 3);
        DUE.is("13: ask", x.best(0, 1, 1), 3);
        DUE.is("13: none is bought at LIMIT", x.best(4, 1, 0), 6);
        DUE.is("13: none is sold at -LIMIT", x.best(-4, 1, 1), 6);
        QuoteMind idle = onlyAt(6, 0, 6, 0);
        DUE.is("13: the first of the same", idle.best(0, 3, 0), 0);
        DUE.is("13: the first of the same", idle.best(0, 3, 1), 0);
        DUE.is("13: the first of the same at LIMIT", idle.best(4, 3, 0), 6);
        DUE.is("13: the first of the same at LIMIT", idle.best(4, 3, 1), 0);
        // Bids 3 and 4 are worth the same: 0.5 (3 - 1) and 1.0 / 3 (4 - 1), cut.
        QuoteMind cut = onlyAt(3, 500, 6, 0);
        cut.set(3, 1);
        cut.odds(0, 4, 333);
        DUE.is("13: 999000 is less", cut.best(0, 1, 0), 3);
        cut.odds(0, 4, 334);
        DUE.is("13: 1002000 is more", cut.best(0, 1, 0), 4);
        DUE.is("13: what ahead of s", x.best(9, 1, 2), NONE);
        DUE.is("13: what", x.best(0, 1, -1), NONE);
        DUE.is("13: s", x.best(5, 1, 0), BAD);
        DUE.is("13: s", x.best(-5, 1, 0), BAD);
        DUE.is("13: t", x.best(0, 0, 0), BAD);
        DUE.is("13: t", x.best(0, 9, 0), BAD);
    }

    private static void promise14and17() {
        QuoteMind x = new QuoteMind();
        DUE.is("14: first", x.rule(-8, 0, 5), 66);
        DUE.is("14: second", x.rule(-8, 6, 6), 5);
        DUE.is("14: third", x.rule(8, 1, 2), 66);
        DUE.is("14: fourth", x.rule(8, 3, 4), 12);
        DUE.is("14: s", x.rule(9, 0, 0), BAD);
        DUE.is("14: s", x.rule(-9, 0, 0), BAD);
        DUE.is("14: b", x.rule(0, 7, 0), BAD);
        DUE.is("14: b", x.rule(0, -1, 0), BAD);
        DUE.is("14: a", x.rule(0, 0, 7), BAD);
        DUE.is("14: a", x.rule(0, 0, -1), BAD);
        DUE.is("17: bid", x.ruled(8, 0), 3);
        DUE.is("17: ask", x.ruled(8, 1), 4);
        DUE.is("17: refused changes nothing", x.ruled(0, 0), 6);
        DUE.is("17: s ahead of what", x.ruled(9, 2), BAD);
        DUE.is("17: s", x.ruled(-9, 0), BAD);
        DUE.is("17: what", x.ruled(0, 2), NONE);
        DUE.is("17: what", x.ruled(0, -1), NONE);
    }

    private static void promise15() {
        QuoteMind x = new QuoteMind();
        DUE.is("15: t", x.adopt(0), BAD);
        DUE.is("15: t", x.adopt(9), BAD);
        DUE.is("15: all nine", x.adopt(1), 9);
        DUE.is("15: the same again", x.adopt(1), 0);
        DUE.is("15: bid", x.ruled(0, 0), 3);
        DUE.is("15: beyond LIMIT nothing", x.ruled(5, 0), 6);
        DUE.is("15: beyond LIMIT nothing", x.ruled(-5, 1), 6);
        x.rule(0, 3, 4);
        x.rule(1, 6, x.ruled(1, 1) == 6 ? 5 : x.ruled(1, 1));
        DUE.is("15: two", x.adopt(1), 2);
        int others = 0;
        for (int s = -4; s <= 4; s++) {
            boolean same = x.ruled(s, 0) == x.best(s, 4, 0) && x.ruled(s, 1) == x.best(s, 4, 1);
            others += same ? 0 : 1;
        }
        DUE.is("15: others", x.adopt(4), others);
        for (int s = -4; s <= 4; s++) {
            DUE.is("15: as best", x.ruled(s, 0), x.best(s, 4, 0));
            DUE.is("15: as best", x.ruled(s, 1), x.best(s, 4, 1));
        }
    }

    private static void promise16() {
        QuoteMind x = new QuoteMind();
        DUE.is("16: no quotes", x.worth(3, 8, 0), -18000000);
        DUE.is("16: loss", x.worth(0, 1, 1), 297600);
        x.rule(0, 2, 2);
        // 0.25 * 0.25 * 4 and nothing else: bought or sold alone it is 2 - 2.
        DUE.is("16: worth", x.worth(0, 1, 0), 250000);
        DUE.is("16: loss", x.worth(0, 1, 1), 47600);
        DUE.is("16: loss without rounds", x.worth(4, 0, 1), 0);
        DUE.is("16: worth without rounds", x.worth(4, 0, 0), -32000000);
        x.rule(4, 0, 6);
        x.rule(-4, 6, 0);
        DUE.is("16: LIMIT forbids it", x.worth(4, 1, 0), -32000000);
        DUE.is("16: LIMIT forbids it", x.worth(-4, 1, 0), -32000000);
        worthOfRounds();
        DUE.is("16: s", x.worth(5, 1, 0), NO);
        DUE.is("16: s", x.worth(-5, 1, 0), NO);
        DUE.is("16: t", x.worth(0, 9, 0), NO);
        DUE.is("16: t", x.worth(0, -1, 0), NO);
        DUE.is("16: what", x.worth(0, 0, 2), NO);
        DUE.is("16: what", x.worth(0, 0, -1), NO);
    }

    private static void worthOfRounds() {
        QuoteMind buyer = onlyAt(1, 1000, 6, 0);
        buyer.set(3, 1);
        buyer.rule(0, 1, 6);
        buyer.rule(1, 1, 6);
        // Two come for 1 million each; 2 of them are fined 4 million.
        DUE.is("16: two rounds of buying", buyer.worth(0, 2, 0), -2000000);
        DUE.is("16: from 1 on", buyer.worth(1, 2, 0), -3000000);
        QuoteMind seller = onlyAt(6, 0, 2, 1000);
        seller.set(3, 3);
        seller.rule(0, 6, 2);
        seller.rule(-1, 6, 2);
        DUE.is("16: two rounds of selling", seller.worth(0, 2, 0), -12000000 + 4000000);
        DUE.is("16: loss", seller.worth(0, 2, 1), seller.value(0, 2) + 8000000);
    }

    private static void promise18() {
        QuoteMind x = new QuoteMind();
        for (int risk = 0; risk <= 99; risk += 3) {
            x.set(4, risk);
            x.set(0, 100 + risk * 99);
            for (int s = -8; s <= 8; s++) {
                float due = (float) x.told(0) - ((float) s * ((float) risk / 100.0f)) * (float) (s + 8 >> 1);
                DUE.is("18: bits", x.reserve(s, s + 8 >> 1, 0), Float.floatToIntBits(due));
                DUE.is("18: half", x.reserve(s, s + 8 >> 1, 1), (int) (due + 0.5f));
            }
        }
        DUE.is("18: s ahead of what", x.reserve(9, 0, 2), BAD);
        DUE.is("18: s", x.reserve(-9, 0, 0), BAD);
        DUE.is("18: t", x.reserve(0, 9, 0), BAD);
        DUE.is("18: t", x.reserve(0, -1, 0), BAD);
        DUE.is("18: what", x.reserve(0, 0, 2), NONE);
        DUE.is("18: what", x.reserve(0, 0, -1), NONE);
        x.set(1, 1);
        x.set(0, 1000);
        DUE.is("18: beyond LIMIT too", x.reserve(8, 0, 1), 1000);
    }

    private static void promise19() {
        QuoteMind x = new QuoteMind();
        long one = Double.doubleToLongBits(1.0);
        DUE.is("19: at a bound", x.meeting(4, 0), one);
        DUE.is("19: at a bound", x.meeting(-4, 8), one);
        DUE.is("19: no rounds", x.meeting(3, 0), 0);
        x.set(1, 1);
        // BEST of 0 is 3 and 3, each taken with 0.12.
        double u = 0.12;
        double met = ((u * u) * 0.0) + ((u * (1.0 - u)) * 1.0) + (((1.0 - u) * u) * 1.0) + (((1.0 - u) * (1.0 - u)) * 0.0);
        DUE.is("19: one round", x.meeting(0, 1), Double.doubleToLongBits(met));
        x.set(1, 4);
        DUE.is("19: too far", x.meeting(0, 3), 0);
        x.set(3, 0);
        DUE.is("19: too far", x.meeting(0, 3), 0);
        DUE.holds("19: not too far", x.meeting(0, 4) > 0 && x.meeting(0, 4) < one);
        meetingOfRounds();
        DUE.is("19: s", x.meeting(5, 0), NO);
        DUE.is("19: s", x.meeting(-5, 0), NO);
        DUE.is("19: t", x.meeting(0, 9), NO);
        DUE.is("19: t", x.meeting(0, -1), NO);
    }

    /** BEST is 5 and 4 wherever LIMIT lets it, there being no FINE. */
    private static void meetingOfRounds() {
        QuoteMind x = onlyAt(5, 300, 4, 200);
        x.set(1, 2);
        x.set(3, 0);
        double u = 300.0 / 1000.0;
        double v = 200.0 / 1000.0;
        double less = 0.0;
        double same = 0.0;
        double more = 0.0;
        for (int t = 0; t <= 8; t++) {
            DUE.is("19: at -1", x.meeting(-1, t), Double.doubleToLongBits(less));
            DUE.is("19: at 0", x.meeting(0, t), Double.doubleToLongBits(same));
            DUE.is("19: at 1", x.meeting(1, t), Double.doubleToLongBits(more));
            double lessThen = met(u, v, less, same, 1.0);
            double sameThen = met(u, v, same, more, less);
            more = met(u, v, more, 1.0, same);
            less = lessThen;
            same = sameThen;
        }
    }

    private static double met(double u, double v, double same, double more, double less) {
        return ((u * v) * same) + ((u * (1.0 - v)) * more) + (((1.0 - u) * v) * less)
                + (((1.0 - u) * (1.0 - v)) * same);
    }

    private static void promise20() {
        QuoteMind x = new QuoteMind();
        x.set(0, 9999);
        x.quote(0, 3);
        x.quote(1, 5);
        double middle = 1000.0;
        double spread = 0.0;
        for (int i = 0; i < 40; i++) {
            double p = i % 2 == 0 ? 9996 : 10004;
            x.trade(i % 2);
            spread = spread * 0.75 + (p - middle) * (p - middle) * 0.25;
            middle = middle + (p - middle) * 0.25;
            DUE.is("20: middle", x.middle(0), Double.doubleToLongBits(middle));
            DUE.is("20: spread", x.middle(1), Double.doubleToLongBits(spread));
            DUE.is("20: middle, cast", x.middle(2), (long) middle);
            DUE.is("20: spread, cast", x.middle(3), (long) spread);
        }
        DUE.is("20: what", x.middle(4), NO);
        DUE.is("20: what", x.middle(-1), NO);
    }
}
