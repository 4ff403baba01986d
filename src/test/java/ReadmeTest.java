import java.io.IOException;
import java.nio.file.Files;
import java.nio.file.Path;
import java.util.regex.Matcher;
import java.util.regex.Pattern;

/** README.md tells every call of the document's face, and what it shows by an example is what the program answers. */
public final class ReadmeTest {
    private static final Pattern OF_FACE = Pattern.compile("    public (?:int|long) (\\w+)\\((.*)\\);");
    private static final Pattern SHOWN = Pattern.compile("mind\\.(\\w+)\\(([-0-9, ]*)\\); +// (-?[0-9]+).*");
    private static final Pattern FED = Pattern.compile("for \\(char sign : \"(.*)\"\\.toCharArray\\(\\)\\) \\{");
    private static final Pattern TICKET = Pattern.compile("} +// \"(.*)\"");

    private static final Due DUE = new Due("ReadmeTest");

    public static void main(String[] args) throws IOException {
        String readme = Files.readString(Path.of("README.md"));
        everyCall(readme);
        everyExample(readme);
        DUE.holds("README.md tells how to run the tests", readme.contains("`.ci/run`"));
        DUE.end();
    }

    private static void everyCall(String readme) throws IOException {
        Matcher m = OF_FACE.matcher(Files.readString(Path.of("../shared/DOC.md")));
        int calls = 0;
        while (m.find()) {
            calls++;
            String told = m.group(1) + "(" + m.group(2).replaceAll("(int|long) ", "") + ")";
            DUE.holds("README.md tells " + told, readme.contains("\n| `" + told + "` | "));
        }
        DUE.is("calls of the face", calls, Calls.SPANS.size());
    }

    private static void everyExample(String readme) {
        QuoteMind mind = new QuoteMind();
        int shown = 0;
        for (String line : readme.split("\n")) {
            Matcher call = SHOWN.matcher(line);
            Matcher fed = FED.matcher(line);
            Matcher ticket = TICKET.matcher(line);
            if (call.matches()) {
                shown++;
                DUE.is(line, Calls.ask(mind, call.group(1), numbers(call.group(2))), Long.parseLong(call.group(3)));
            } else if (fed.matches()) {
                shown++;
                feed(mind, fed.group(1));
            } else if (ticket.matches()) {
                shown++;
                DUE.holds(line, ticketOf(mind).equals(ticket.group(1)));
            }
        }
        DUE.is("rows of the examples", shown, 16);
    }

    private static long[] numbers(String told) {
        String[] parts = told.isEmpty() ? new String[0] : told.split(", ");
        long[] numbers = new long[parts.length];
        for (int i = 0; i < parts.length; i++) {
            numbers[i] = Long.parseLong(parts[i]);
        }
        return numbers;
    }

    private static void feed(QuoteMind mind, String text) {
        for (char sign : text.toCharArray()) {
            mind.feed(sign);
        }
    }

    private static String ticketOf(QuoteMind mind) {
        StringBuilder ticket = new StringBuilder();
        for (int i = 0; i < mind.count(3); i++) {
            ticket.append((char) mind.ticket(i));
        }
        return ticket.toString();
    }
}
