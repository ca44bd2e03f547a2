import java.util.Map;
import java.util.Set;
import java.util.TreeSet;
import java.util.regex.Matcher;
import java.util.regex.Pattern;

/**
 * Runs of calls written as a text, on a new object each: name(arguments)=answer, and 'letters'=answer for the
 * letters typed and taken as a rock; 3*call=answer is the call three times. Words in capitals are the constants.
 */
final class Script {
    private static final Map<String, Long> WORDS = Map.ofEntries(
        Map.entry("BAD", -1L), Map.entry("NOT", -2L), Map.entry("FULL", -3L), Map.entry("NONE", -4L),
        Map.entry("NULL", -11L), Map.entry("CAST", -12L), Map.entry("INDEX", -13L), Map.entry("SIZE", -14L),
        Map.entry("MIN", (long) Integer.MIN_VALUE), Map.entry("MAX", (long) Integer.MAX_VALUE),
        Map.entry("LONGMIN", Long.MIN_VALUE), Map.entry("LONGMAX", Long.MAX_VALUE));
    private static final Pattern CALL = Pattern.compile(
        "\\s*(?:(\\d+)\\*)?(?:'([^']*)'|(\\w+)\\(([^)]*)\\))=(-?\\w+)");

    /** Which call was due to answer what, as "mark BAD"; an answer from 0 on is told as "mark +". */
    private static final Set<String> ANSWERED = new TreeSet<>();

    private Script() {
    }

    static void run(String sentence, String... parts) {
        ErasingMonks x = new ErasingMonks();
        for (String calls : parts) {
            Matcher next = CALL.matcher(calls);
            int at = 0;
            while (next.find(at) && next.start() == at) {
                int times = next.group(1) == null ? 1 : Integer.parseInt(next.group(1));
                for (int i = 0; i < times; i++) {
                    step(sentence, x, next);
                }
                at = next.end();
            }
            if (!calls.substring(at).isBlank()) {
                throw new IllegalArgumentException(sentence + ": " + calls.substring(at));
            }
        }
    }

    /** The runs so far have had each of these answers due of the call. */
    static void named(String call, String... kinds) {
        for (String kind : kinds) {
            Due.holds("some run has " + call + " answer " + kind, ANSWERED.contains(call + " " + kind));
        }
    }

    private static void step(String sentence, ErasingMonks x, Matcher call) {
        String told = call.group().trim();
        long want = number(call.group(5));
        if (call.group(2) != null) {
            Due.due(sentence + ": " + told, Due.rock(x, call.group(2)), want);
            ANSWERED.add("rock " + kindOf(want));
            return;
        }
        String[] words = call.group(4).isBlank() ? new String[0] : call.group(4).split(",");
        long[] args = new long[words.length];
        for (int i = 0; i < words.length; i++) {
            args[i] = number(words[i].trim());
        }
        Due.due(sentence + ": " + told, Ask.ask(x, call.group(3), args), want);
        ANSWERED.add(call.group(3) + " " + kindOf(want));
    }

    private static long number(String word) {
        return WORDS.containsKey(word) ? WORDS.get(word) : Long.parseLong(word);
    }

    private static String kindOf(long answer) {
        if (answer >= 0) {
            return "+";
        }
        if (answer <= -20) {
            return "FAULT";
        }
        return WORDS.entrySet().stream().filter(e -> e.getValue() == answer).findFirst().orElseThrow().getKey();
    }
}
