import java.util.ArrayList;
import java.util.Arrays;
import java.util.List;
import java.util.Random;

/** Drawn runs of calls, each answer beside that of a second writing of the document. */
public final class ModelTest {
    private static final int RUNS = 1500;
    private static final int CALLS = 160;
    private static final String[] NAMES = {
        "mark", "monk", "of", "at", "count", "days", "send", "press", "ink", "drift", "undo", "seed", "dark", "size",
        "then", "gone", "needs", "sends", "round", "pair", "small", "slip", "image", "restore", "worn", "swept",
        "film", "sheet", "drop", "item", "copy", "send", "press", "film", "worn", "worn", "item", "swept", "TEXT"};
    private static final String LETTERS = "0123456789.,;/>pnsta   q~";

    private final Random random;
    private ErasingMonks x = new ErasingMonks();
    private PlainMonks model = new PlainMonks();
    private final List<String> told = new ArrayList<>();

    private ModelTest(long seed) {
        random = new Random(seed);
    }

    public static void main(String[] args) {
        for (int run = 0; run < RUNS; run++) {
            if (!new ModelTest(run).run()) {
                break;
            }
        }
        Due.end();
    }

    private boolean run() {
        for (int i = 0; i < CALLS; i++) {
            String name = i == 0 ? "TEXT" : NAMES[random.nextInt(NAMES.length)];
            boolean same;
            if (name.equals("TEXT")) {
                same = text();
            } else if (name.equals("sends") && random.nextInt(4) != 0) {
                same = true;
            } else {
                same = call(name);
            }
            if (!same) {
                told.forEach(System.out::println);
                return false;
            }
        }
        return lookAtAll();
    }

    private boolean lookAtAll() {
        for (int mark = 0; mark < 6; mark++) {
            for (int what = 0; what < 7; what++) {
                if (!compare("of", mark, what)) {
                    return false;
                }
            }
        }
        for (int monk = 0; monk < 5; monk++) {
            for (int what = 0; what < 3; what++) {
                if (!compare("at", monk, what)) {
                    return false;
                }
            }
        }
        return true;
    }

    private boolean call(String name) {
        long[] args;
        int monk = near(5, 0);
        int mark = near(6, 0);
        switch (name) {
            case "mark": args = ints(near(61, 0), near(9, 1), random.nextBoolean() ? 0 : near(61, 0)); break;
            case "monk": args = ints(near(5, 0), near(100, 0)); break;
            case "of": args = ints(mark, near(7, 0)); break;
            case "at": args = ints(monk, near(3, 0)); break;
            case "count": args = ints(near(9, 0)); break;
            case "days": args = ints(random.nextInt(4) == 0 ? near(40, 1) : near(4, 1)); break;
            case "send": args = ints(monk, random.nextInt(5) == 0 ? -4 : mark); break;
            case "press": args = ints(monk, mark, random.nextBoolean() ? near(60, 1) : near(4, 1)); break;
            case "ink": args = ints(mark, near(60, 1)); break;
            case "drift": args = ints(random.nextInt(4) == 0 ? near(40, 1) : near(4, 1)); break;
            case "seed": args = ints(random.nextInt()); break;
            case "dark": args = ints(mark, near(61, 0)); break;
            case "size": args = ints(monk, near(61, 0)); break;
            case "then": args = ints(near(61, 0), near(3, 0)); break;
            case "gone": args = ints(mark); break;
            case "needs": case "small": args = ints(monk, mark); break;
            case "sends": args = ints(random.nextBoolean() ? near(6, 0) : near(31, 0), near(7, -1)); break;
            case "round": args = ints(monk, near(8, -1)); break;
            case "pair": args = ints(mark, near(3, 0)); break;
            case "slip": args = ints(near(7, 0), near(11, 0), near(2, 0)); break;
            case "worn": args = ints(monk, near(4, 0), lane(), near(24, 0), near(8, 1), near(2, 0)); break;
            case "swept": args = ints(near(100, 0), near(4, 0), lane(), near(24, 0), near(5, 1)); break;
            case "film": args = ints(monk, near(24, 1), near(4, 0), lane(), near(24, 0)); break;
            case "sheet": args = ints(near(4, 0), lane(), near(25, 0)); break;
            case "drop": args = ints(random.nextInt(5) == 0 ? near(4, 0) : 9); break;
            case "item": args = ints(near(4, 0), lane(), near(24, 0), value()); break;
            case "copy": args = ints(near(4, 0), near(24, 0), near(4, 0), near(24, 0), near(25, 0)); break;
            default: args = ints(); break;
        }
        if (name.equals("film") || name.equals("worn")) {
            // Often from item 0 on, so that what was filmed may be what is worn.
            args[name.equals("film") ? 4 : 3] = random.nextBoolean() ? 0 : near(24, 0);
        }
        return compare(name, args);
    }

    private boolean compare(String name, long... args) {
        int got = Ask.ask(x, name, args);
        int want = Ask.ask(model, name, args);
        String call = name + Arrays.toString(args);
        told.add(call + " = " + want);
        Due.due(call, got, want);
        return got == want;
    }

    /** A number of so many from the least on; seldom one beside them or far off. */
    private int near(int many, int least) {
        switch (random.nextInt(60)) {
            case 0: return least - 1;
            case 1: return least + many;
            case 2: return random.nextInt();
            case 3: return least;
            case 4: return least + many - 1;
            default: return least + random.nextInt(many);
        }
    }

    /** Mostly ints, so that the lane is often the one of the sheet. */
    private int lane() {
        return random.nextInt(3) == 0 ? near(4, 0) : 2;
    }

    private long value() {
        return random.nextInt(4) == 0 ? random.nextLong() : near(9, 1);
    }

    private static long[] ints(long... values) {
        return values;
    }

    private boolean text() {
        StringBuilder text = new StringBuilder();
        int marks = 1 + random.nextInt(random.nextInt(9) == 0 ? 7 : 6);
        for (int i = 0; i < marks; i++) {
            text.append(i == 0 ? "" : ",").append(small(60)).append('.').append(1 + random.nextInt(9));
            text.append(random.nextInt(3) == 0 ? "/" + small(60) : "");
        }
        int monks = random.nextInt(random.nextInt(9) == 0 ? 7 : 6);
        for (int i = 0; i < monks; i++) {
            text.append(i == 0 ? ";" : ",").append("pnsta".charAt(random.nextInt(5))).append(small(99));
            text.append(random.nextInt(4) == 0 ? "" : ">" + random.nextInt(marks));
        }
        int spoilt = random.nextInt(3) == 0 ? 1 + random.nextInt(3) : 0;
        for (int i = 0; i < spoilt; i++) {
            spoil(text);
        }
        boolean same = true;
        for (int i = 0; i < text.length() && same; i++) {
            same = compare("type", text.charAt(i));
        }
        same = same && compare("rock");
        if (!same) {
            System.out.println("'" + text + "'");
        }
        return same;
    }

    private void spoil(StringBuilder text) {
        int place = random.nextInt(text.length() + 1);
        char letter = LETTERS.charAt(random.nextInt(LETTERS.length()));
        switch (random.nextInt(4)) {
            case 0: text.insert(place, letter); break;
            case 1: text.insert(place, ' '); break;
            case 2: text.setLength(Math.max(1, place)); break;
            default: text.setCharAt(Math.min(place, text.length() - 1), letter); break;
        }
    }

    private int small(int most) {
        return random.nextInt(3) == 0 ? random.nextInt(Math.min(most, 12)) : random.nextInt(most + 1);
    }
}
