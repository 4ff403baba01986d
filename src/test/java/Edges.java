import java.io.IOException;
import java.nio.file.Files;
import java.nio.file.Path;
import java.util.ArrayList;
import java.util.BitSet;
import java.util.List;
import java.util.Set;

/**
 * Tests of the document's own words: each edge quotes a sentence of a section of ../shared/DOC.md and tells rows of
 * calls on a new object, with the answers that are due.
 *
 * <p>A row is a call's name, its arguments, and "=" with the answer; without "=" any answer will do that refuses
 * nothing. "min" and "max" are the ends of int, "NO" is Long.MIN_VALUE. "3 x row" is the row three times. "text " feeds
 * the signs behind it; "slip " tells the whole TICKET; "row T: a b c" tells all items of a TAPE; "idle" sets all ODDS
 * to 0.
 *
 * <p>Every answer is asked of the second reading (Oracle) too. Behind the rows a second object gets only those calls
 * that were not refused and that change something: all of it must be as it is in the first one then, since what is
 * refused, or only asked, changes nothing. At the end each clause of the sections must have been quoted.
 */
final class Edges {
    private static final int CALLS_OF_AN_OBJECT = 512;
    private static final Set<String> CHANGING = Set.of("set", "odds", "rival", "lay", "street", "copy", "rule", "adopt",
            "quote", "trade", "feed", "read", "see", "event", "image", "undo", "tape", "item", "shift");
    private static final Set<Long> REFUSALS = Set.of(-1L, -2L, -3L, -4L, -11L, -12L, -13L, -14L, -15L);

    private final Due due;
    private final String document;
    private final BitSet quoted = new BitSet();
    private String section = "";
    private int begin;
    private int end;

    private QuoteMind mind;
    private Oracle oracle;
    private String words;
    private int calls;
    private final List<String> namesDone = new ArrayList<>();
    private final List<long[]> argumentsDone = new ArrayList<>();

    Edges(Due due) throws IOException {
        this.due = due;
        document = Files.readString(Path.of("../shared/DOC.md"));
    }

    /** The next edges quote the document from one text up to another. */
    void section(String from, String to) {
        closeSection();
        section = from.trim() + " ";
        begin = document.indexOf(from);
        end = begin < 0 ? -1 : document.indexOf(to, begin + from.length());
        due.holds("the document has " + from + " and then " + to, begin >= 0 && end >= 0);
        if (end < 0) {
            begin = 0;
            end = 0;
        }
        begin += begin == end ? 0 : from.length();
        quoted.clear();
    }

    /** The next edges quote a promise, the line of its heading and of its call left out. */
    void promise(int number) {
        section("## Promise " + number + ": ", "\n## ");
        int behindCall = document.indexOf("`: ", begin);
        begin = behindCall < 0 || behindCall > end ? begin : behindCall + 2;
    }

    /** Words of the section that leave nothing to be tested. */
    void noEdge(String quotation) {
        words = section + "\"" + quotation + "\"";
        quote(quotation);
    }

    private void quote(String quotation) {
        int at = document.indexOf(quotation, begin);
        boolean stands = at >= 0 && at + quotation.length() <= end;
        due.holds(words + " stands in the document", stands);
        if (stands) {
            quoted.set(at, at + quotation.length());
        }
    }

    /** Every clause of the section must overlap with a quotation. */
    private void closeSection() {
        int from = begin;
        for (int i = begin; i < end; i++) {
            boolean isEnd = i + 1 >= end || ".;\n".indexOf(document.charAt(i)) >= 0 && document.charAt(i + 1) <= ' ';
            if (isEnd) {
                String clause = document.substring(from, i + 1).trim();
                int next = quoted.nextSetBit(from);
                boolean isQuoted = next >= 0 && next <= i;
                boolean isText = clause.matches("(?s).*[a-zA-Z].*") && !clause.matches("`*text");
                due.holds(section + ": an edge for \"" + clause + "\"", isQuoted || !isText);
                from = i + 1;
            }
        }
    }

    void end() {
        closeSection();
        begin = 0;
        end = 0;
    }

    void edge(String quotation, String... rows) {
        words = section + "\"" + quotation + "\"";
        quote(quotation);
        mind = new QuoteMind();
        oracle = new Oracle();
        calls = 0;
        namesDone.clear();
        argumentsDone.clear();
        for (String row : rows) {
            row(row);
        }
        compareWithTwin();
        due.holds(words + " keeps to 512 calls: " + calls, calls <= CALLS_OF_AN_OBJECT);
    }

    private void row(String row) {
        if (row.matches("[0-9]+ x .*")) {
            int times = Integer.parseInt(row.substring(0, row.indexOf(' ')));
            for (int i = 0; i < times; i++) {
                row(row.substring(row.indexOf('x') + 2));
            }
        } else if (row.startsWith("text ")) {
            for (int i = 5; i < row.length(); i++) {
                call("feed", new long[] {row.charAt(i)});
            }
        } else if (row.startsWith("slip ")) {
            slip(row.substring(5));
        } else if (row.startsWith("row ")) {
            tapeRow(row.charAt(4) - '0', row.substring(6).trim());
        } else if (row.equals("idle")) {
            for (int i = 0; i < 12; i++) {
                call("odds", new long[] {i / 6, i % 6, 0});
            }
        } else {
            callRow(row);
        }
    }

    private void callRow(String row) {
        String[] halves = row.split(" = ");
        String[] parts = halves[0].split(" ");
        long[] g = new long[parts.length - 1];
        for (int i = 0; i < g.length; i++) {
            g[i] = number(parts[i + 1]);
        }
        long got = call(parts[0], g);
        if (halves.length > 1) {
            due.is(words + ": " + halves[0], got, number(halves[1]));
        } else {
            due.holds(words + ": " + row + " is not refused, but " + got, !REFUSALS.contains(got) && got != Oracle.NO);
        }
    }

    private static long number(String told) {
        switch (told) {
            case "min": return Integer.MIN_VALUE;
            case "max": return Integer.MAX_VALUE;
            case "NO": return Oracle.NO;
            default: return Long.parseLong(told);
        }
    }

    private long call(String name, long[] g) {
        calls++;
        long got = Calls.ask(mind, name, g);
        due.is(words + ": " + name + java.util.Arrays.toString(g) + " by the second reading", got,
                oracle.answer(name, g.clone()));
        if (CHANGING.contains(name) && (name.equals("read") || !REFUSALS.contains(got))) {
            namesDone.add(name);
            argumentsDone.add(g);
        }
        return got;
    }

    private void slip(String ticket) {
        for (int i = 0; i < ticket.length(); i++) {
            due.is(words + ": ticket(" + i + ") of " + ticket, call("ticket", new long[] {i}), ticket.charAt(i));
        }
        due.is(words + ": the end of " + ticket, call("ticket", new long[] {ticket.length()}), -5);
        due.is(words + ": the length of " + ticket, call("count", new long[] {3}), ticket.length());
    }

    private void tapeRow(int tape, String told) {
        String[] items = told.isEmpty() ? new String[0] : told.split(" ");
        for (int i = 0; i < items.length; i++) {
            due.is(words + ": item " + i, call("peek", new long[] {tape, i}), number(items[i]));
        }
        due.is(words + ": the end of the row", call("peek", new long[] {tape, items.length}), Oracle.NO);
    }

    private void compareWithTwin() {
        QuoteMind twin = new QuoteMind();
        for (int i = 0; i < namesDone.size(); i++) {
            Calls.ask(twin, namesDone.get(i), argumentsDone.get(i));
        }
        List<String> due1 = allOf(twin);
        List<String> got = allOf(mind);
        // No line of it takes more than two calls on the mean.
        calls += 2 * got.size();
        for (int i = 0; i < Math.max(got.size(), due1.size()); i++) {
            String one = i < got.size() ? got.get(i) : "nothing";
            String other = i < due1.size() ? due1.get(i) : "nothing";
            due.holds(words + ": what is refused or asked changes nothing, but " + one + " should be " + other,
                    one.equals(other));
        }
    }

    /** All that can be seen of an object; it is of no use then. */
    private static List<String> allOf(QuoteMind x) {
        List<String> seen = new ArrayList<>();
        worldOf(x, seen);
        for (int tape = 0; tape < 6; tape++) {
            for (int i = 0; x.peek(tape, i) != Oracle.NO; i++) {
                seen.add("item " + i + " of " + tape + ": " + x.peek(tape, i));
            }
            // The sorts show by how much of a number an item holds, and by what is refused.
            seen.add("item of " + tape + ": " + x.item(tape, 0, 0x123456789AB00L) + " " + x.peek(tape, 0));
            seen.add("shift of " + tape + ": " + x.shift(tape, 0, (tape + 1) % 6, 0, 0));
        }
        seen.add("text: " + x.count(2) + " " + x.read());
        seen.add("undo: " + x.undo());
        worldOf(x, seen);
        return seen;
    }

    private static void worldOf(QuoteMind x, List<String> seen) {
        for (int what = 0; what <= 11; what++) {
            seen.add("told(" + what + "): " + x.told(what));
        }
        for (int i = 0; i < 12; i++) {
            seen.add("at(" + i / 4 + ", " + i % 4 + "): " + x.at(i / 4, i % 4));
        }
        for (int rival = 0; rival < x.told(7); rival++) {
            seen.add("theirs of " + rival + ": " + x.theirs(rival, 0, 5) + " " + x.theirs(rival, 1, 5));
        }
        for (int s = -8; s <= 8; s++) {
            seen.add("ruled(" + s + "): " + x.ruled(s, 0) + " " + x.ruled(s, 1));
        }
        seen.add("middle: " + x.middle(0) + " " + x.middle(1));
        seen.add("seen: " + x.count(0) + " " + x.fits(0) + " " + x.fits(1));
        seen.add("events: " + x.count(1) + " " + x.after());
        // What was, tells the ODDS without the RIVALS.
        for (int i = 0; i < 12; i++) {
            int was = x.odds(i / 6, i % 6, 0);
            seen.add("odds(" + i / 6 + ", " + i % 6 + "): " + was);
        }
    }
}
