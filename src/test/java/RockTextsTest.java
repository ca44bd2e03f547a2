import java.util.regex.Matcher;
import java.util.regex.Pattern;

/**
 * Promise 7: every short text of the letters that matter, and longer ones with one letter changed. Here a ROCK is a
 * pattern, and the first letter that can't stand there is the one with which no text that fits can begin; that
 * is told neither by the class nor by the second writing, which both read from left to right.
 */
public final class RockTextsTest {
    private static final String MARK = " *\\d\\d? *\\. *[1-9] *(?:/ *\\d\\d? *)?";
    private static final String MONK = " *[pnsta] *\\d\\d? *(?:> *\\d *)?";
    private static final Pattern ROCK = Pattern.compile(
        MARK + "(?:," + MARK + "){0,5}(?:;" + MONK + "(?:," + MONK + "){0,4})?");
    private static final Pattern NUMBER = Pattern.compile("([^\\d ]?) *(\\d+)");
    private static final int MOST_CALLS = 512;

    private static ErasingMonks x = new ErasingMonks();
    private static int calls = 0;
    private static int stood = 0;
    private static int texts = 0;

    public static void main(String[] args) {
        every("", "016.,/;p> ", 5);
        every("7.2", "01 .,/;x", 5);
        every("5.5;", "p3049>,; ", 5);
        every("5.5,60.9/60;a", "0129>, ", 5);
        every("1.1,1.1,1.1,1.1,1.1", ",;1. /", 5);
        every("1.1;p1,p1,p1,p1", ",;1p >0", 5);
        changed("60.9/60,0.1,5.5/0,59.8/59,7.7,06.3;p99>5,n0,s30>0,t09,a1>3");
        changed(" 6 . 1 / 0 , 60 . 9 ; t 29 > 1 , a 9 ");
        Due.holds("texts " + texts + " of which stood " + stood, texts > 200000 && stood > 1500);
        Due.end();
    }

    private static void every(String ahead, String letters, int more) {
        tryText(ahead);
        if (more > 0) {
            for (int i = 0; i < letters.length(); i++) {
                every(ahead + letters.charAt(i), letters, more - 1);
            }
        }
    }

    /** Each letter of the text left out, doubled, and put in place of by another one; and each beginning of it. */
    private static void changed(String text) {
        String others = "0159.,/;>pnstaq ~";
        for (int i = 0; i < text.length(); i++) {
            String left = text.substring(0, i);
            String right = text.substring(i + 1);
            tryText(left);
            tryText(left + right);
            for (int k = 0; k < others.length(); k++) {
                tryText(left + others.charAt(k) + right);
                tryText(left + others.charAt(k) + text.charAt(i) + right);
            }
        }
        tryText(text);
    }

    private static void tryText(String text) {
        texts++;
        if (calls + 2 * text.length() + 60 > MOST_CALLS) {
            x = new ErasingMonks();
            calls = 0;
        }
        for (int i = 0; i < text.length(); i++) {
            x.type(text.charAt(i));
        }
        int place = faultOf(text);
        int due = place < 0 ? times(text, '.') : -20 - place;
        Due.due("'" + text + "'", x.rock(), due);
        calls += text.length() + 1;
        if (place < 0) {
            stood++;
            stands(text);
        }
    }

    /** The place of the fault, or -1. */
    private static int faultOf(String text) {
        int place = 0;
        while (place < text.length() && canBegin(text.substring(0, place + 1))) {
            place++;
        }
        Matcher number = NUMBER.matcher(text.substring(0, place));
        while (number.find()) {
            if (Integer.parseInt(number.group(2)) > mostOf(number.group(1), text.substring(0, number.start()))) {
                return number.start(2);
            }
        }
        return place == text.length() && ROCK.matcher(text).matches() ? -1 : place;
    }

    private static boolean canBegin(String text) {
        Matcher matcher = ROCK.matcher(text);
        return matcher.matches() || matcher.hitEnd();
    }

    private static int mostOf(String sign, String ahead) {
        switch (sign) {
            case ">":
                return times(ahead, '.') - 1;
            case "p": case "n": case "s": case "t": case "a":
                return 99;
            default:
                return 60;
        }
    }

    /** What the rock that stands has become is what the text says, cut apart at its signs. */
    private static void stands(String text) {
        String[] halves = text.replace(" ", "").split(";");
        String[] marks = halves[0].split(",");
        String[] monks = halves.length < 2 ? new String[0] : halves[1].split(",");
        Due.due("'" + text + "' marks", x.count(0), marks.length);
        Due.due("'" + text + "' monks", x.count(1), monks.length);
        for (int i = 0; i < marks.length; i++) {
            String[] parts = marks[i].split("[./]");
            Due.due("'" + text + "' dark " + i, x.of(i, 0), Integer.parseInt(parts[0]));
            Due.due("'" + text + "' hard " + i, x.of(i, 1), Integer.parseInt(parts[1]));
            Due.due("'" + text + "' under " + i, x.of(i, 2), parts.length < 3 ? 0 : Integer.parseInt(parts[2]));
        }
        for (int i = 0; i < monks.length; i++) {
            String[] parts = monks[i].substring(1).split(">");
            Due.due("'" + text + "' kind " + i, x.at(i, 0), "pnsta".indexOf(monks[i].charAt(0)));
            Due.due("'" + text + "' size " + i, x.at(i, 1), Integer.parseInt(parts[0]));
            Due.due("'" + text + "' sent " + i, x.at(i, 2), parts.length < 2 ? -4 : Integer.parseInt(parts[1]));
        }
        calls += 2 + 3 * marks.length + 3 * monks.length;
    }

    private static int times(String text, char letter) {
        return (int) text.chars().filter(each -> each == letter).count();
    }
}
