/** Promises 21 to 25: my quotes, trades, orders read from texts, the ticket. */
public final class TruthTest {
    private static final int NONE = -1, BAD = -2, STATE = -3, FULL = -4, ABSENT = -5, OVER = -15;

    private static final Due DUE = new Due("TruthTest");

    public static void main(String[] args) {
        promise21();
        promise22();
        promise22Over();
        promise23();
        promise24Faults();
        promise24Done();
        promise25();
        DUE.end();
    }

    private static int read(QuoteMind x, String text) {
        for (int i = 0; i < text.length(); i++) {
            x.feed(text.charAt(i));
        }
        return x.read();
    }

    private static String ticket(QuoteMind x) {
        StringBuilder ticket = new StringBuilder();
        for (int i = 0; i < 40 && x.ticket(i) != ABSENT; i++) {
            ticket.append((char) x.ticket(i));
        }
        DUE.is("34: length of the ticket", x.count(3), ticket.length());
        return ticket.toString();
    }

    private static void promise21() {
        QuoteMind x = new QuoteMind();
        DUE.is("21: bid", x.quote(0, 0), 6);
        DUE.is("21: ask", x.quote(1, 5), 6);
        DUE.is("21: bid", x.quote(0, 6), 0);
        DUE.is("21: ask", x.quote(1, 1), 5);
        DUE.is("21: side ahead of d", x.quote(2, 7), NONE);
        DUE.is("21: side", x.quote(-1, 0), NONE);
        DUE.is("21: d", x.quote(0, 7), BAD);
        DUE.is("21: d", x.quote(1, -1), BAD);
        DUE.is("21: told", x.told(9), 1);
    }

    private static void promise22() {
        QuoteMind x = new QuoteMind();
        DUE.is("22: no bid", x.trade(0), STATE);
        DUE.is("22: no ask", x.trade(1), STATE);
        DUE.is("22: side", x.trade(2), NONE);
        DUE.is("22: side", x.trade(-1), NONE);
        x.quote(0, 2);
        x.quote(1, 3);
        x.set(5, 10);
        DUE.is("22: hit", x.trade(0), 101);
        DUE.is("22: cash", x.told(11), -9980);
        DUE.is("22: lift", x.trade(1), 100);
        DUE.is("22: cash", x.told(11), 50);
        for (int i = 1; i <= 4; i++) {
            DUE.is("22: hits", x.trade(0), 100 + i);
        }
        long middle = x.middle(0);
        DUE.is("22: at LIMIT", x.trade(0), STATE);
        DUE.is("22: refused changes nothing", x.middle(0), middle);
        DUE.is("22: refused changes nothing", x.told(11), 50 - 4 * 9980);
        x.set(1, 2);
        DUE.is("22: beyond LIMIT then, even if nearer", x.trade(1), STATE);
        DUE.is("22: beyond LIMIT, further", x.trade(0), STATE);
        x.set(1, 3);
        DUE.is("22: back to LIMIT", x.trade(1), 103);
        x.quote(0, 6);
        DUE.is("22: no bid any more", x.trade(0), STATE);
    }

    private static void promise22Over() {
        QuoteMind x = new QuoteMind();
        x.quote(0, 0);
        x.quote(1, 0);
        x.set(0, 2148);
        x.set(5, 1000000);
        DUE.is("22: 2148000000 is no int", x.trade(0), OVER);
        DUE.is("22: 2148000000 is no int", x.trade(1), OVER);
        x.set(0, 2147);
        DUE.is("22: 2147000000 is one", x.trade(0), 101);
        DUE.is("22: cash would be below", x.trade(0), OVER);
        DUE.is("22: stock", x.told(10), 1);
        x.set(0, 3000);
        DUE.is("22: no int, though cash behind it would be", x.trade(1), OVER);
        x.set(0, 483);
        x.set(5, 1000);
        DUE.is("22: -2147483000", x.trade(0), 102);
        x.set(0, 324);
        x.set(5, 2);
        DUE.is("22: -2147483648", x.trade(0), 103);
        DUE.is("22: cash", x.told(11), Integer.MIN_VALUE);
        DUE.holds("25: ticket", ticket(x).equals("3 -2147483648 0/0 long"));
        x.set(0, 100);
        x.set(5, 1);
        DUE.is("22: one less", x.trade(0), OVER);
        DUE.is("22: one more", x.trade(1), 102);
        QuoteMind y = new QuoteMind();
        y.quote(1, 0);
        y.set(0, 2147);
        y.set(5, 1000000);
        DUE.is("22: 2147000000", y.trade(1), 99);
        DUE.is("22: above", y.trade(1), OVER);
        y.set(0, 483);
        y.set(5, 1000);
        DUE.is("22: 2147483000", y.trade(1), 98);
        y.set(0, 647);
        y.set(5, 1);
        DUE.is("22: 2147483647", y.trade(1), 97);
        DUE.is("22: above", y.trade(1), OVER);
        DUE.is("22: no quote ahead of over", y.trade(0), STATE);
    }

    private static void promise23() {
        QuoteMind x = new QuoteMind();
        DUE.is("23: sign", x.feed(-1), BAD);
        DUE.is("23: sign", x.feed(128), BAD);
        for (int i = 1; i <= 100; i++) {
            DUE.is("23: length", x.feed(i == 1 ? 0 : 127), i);
        }
        DUE.is("23: full", x.feed(59), FULL);
        DUE.is("23: sign ahead of full", x.feed(128), BAD);
        DUE.is("34: bytes", x.count(2), 100);
        DUE.is("24: sign 0", x.read(), -10);
        DUE.is("34: none", x.count(2), 0);
        DUE.is("23: again", x.feed(98), 1);
    }

    private static void promise24Faults() {
        String twelve = "hit;hit;hit;hit;hit;hit;hit;hit;hit;hit;hit;hit";
        String[] texts = {"", "1", "Bid1", ";", " hit", "bid1;", "bid1; hit", "sell", "bid1;hits", "bi1", "bid", "bid12",
            "ask", "askx", "bid12345", "ask12", "pull1", "hit1", "lift0", "pull9999", "hit;lift1", "fair", "fair1", "fair12", "fair12345",
            "street", "street12", "bid1 ", "bid1x", "fair1234x", "hit,lift", "hit;;hit", "bid1;Hit", twelve + ";",
            twelve + ";hit", twelve + ",", "z", "{", "`", "bid:", "bid/", "street1;fair12;sell"};
        int[] faults = {0, 0, 0, 0, 0, 5, 5, 0, 5, 0, 3, 3, 3, 0, 3, 3, 4, 3, 4, 4, 8, 4, 4, 4, 8, 6, 6, 4, 4, 8, 3, 4, 5, 47,
            47, 47, 0, 0, 0, 3, 3, 12};
        DUE.is("24: as many faults", faults.length, texts.length);
        for (int i = 0; i < texts.length; i++) {
            QuoteMind x = new QuoteMind();
            x.quote(0, 0);
            x.quote(1, 0);
            DUE.is("24: " + texts[i], read(x, texts[i]), -10 - faults[i]);
            DUE.is("24: empty then", x.count(2), 0);
            DUE.is("24: nothing is done by a fault", x.told(10), 0);
            DUE.is("24: nothing is done by a fault", x.told(6), 0);
        }
    }

    private static void promise24Done() {
        QuoteMind x = new QuoteMind();
        DUE.is("24: bid, ask", read(x, "bid0;ask6"), 2);
        DUE.is("24: bid", x.told(8), 0);
        DUE.is("24: what may not be isn't done", read(x, "bid7;ask9;fair099;fair0099;street3;hit"), 1);
        DUE.is("24: stock", x.told(10), 1);
        DUE.is("24: fair", read(x, "fair100;fair9999;fair0250"), 3);
        DUE.is("24: fair", x.told(0), 250);
        DUE.is("24: street", read(x, "street2"), 1);
        DUE.is("24: street", x.told(6), 2);
        DUE.is("24: pull", read(x, "ask1;pull;pull;lift"), 3);
        DUE.is("24: pull", x.told(8) * 10 + x.told(9), 66);
        DUE.is("24: lift", read(x, "ask1;lift;lift"), 3);
        DUE.is("24: cash", x.told(11), -1000 + 251 + 251);
        DUE.is("24: twelve", read(x, "bid1;hit;lift;hit;lift;hit;lift;hit;lift;hit;lift;hit"), 12);
        DUE.is("24: up to LIMIT", read(x, "hit;hit;hit;hit;hit;hit"), 4);
        DUE.is("24: stock", x.told(10), 4);
        DUE.is("24: what was read before is over", read(x, "hit"), 0);
        DUE.is("24: what was read before is over", read(x, "lift;lift"), 2);
        DUE.is("24: what was read before is over", read(x, "ask3"), 1);
        DUE.is("24: stock", x.told(10), 2);
        DUE.is("24: all hundred", read(x, "street0;street1;street2;street0;street1;street2;street0;street1;street2;"
                + "street0;fair0000;fair1234;"), -10 - 97);
    }

    private static void promise25() {
        QuoteMind x = new QuoteMind();
        DUE.holds("25: at first", ticket(x).equals("0 0 -/- flat"));
        x.quote(0, 0);
        DUE.holds("25: bid", ticket(x).equals("0 0 0/- flat"));
        x.trade(0);
        DUE.holds("25: long", ticket(x).equals("1 -1000 0/- long"));
        x.quote(1, 5);
        x.quote(0, 6);
        x.trade(1);
        x.trade(1);
        DUE.holds("25: short", ticket(x).equals("-1 1010 -/5 short"));
        DUE.is("25: i", x.ticket(-1), NONE);
        DUE.is("25: i", x.ticket(Integer.MIN_VALUE), NONE);
        DUE.is("25: i", x.ticket(17), ABSENT);
        DUE.is("25: i", x.ticket(16), 't');
        DUE.is("25: i", x.ticket(Integer.MAX_VALUE), ABSENT);
    }
}
