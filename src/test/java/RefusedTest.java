import java.util.ArrayList;
import java.util.Arrays;
import java.util.List;
import java.util.Set;

/**
 * What is refused changes nothing: every call over a grid of edges, on rocks made alike. The answer is beside that of
 * the second writing, and behind each answer that refuses all that can be asked is as it would be without the call.
 */
public final class RefusedTest {
    private static final int MIN = Integer.MIN_VALUE;
    private static final int MAX = Integer.MAX_VALUE;

    /** How a rock comes about; the last of them, on day 9999, is for the calls that the DAY may refuse. */
    private enum Way { NOBODY, SOME, ALL, LATE }

    private static int refused = 0;

    private final Way way;
    private final int[] untouched;

    private RefusedTest(Way way) {
        this.way = way;
        ErasingMonks x = new ErasingMonks();
        make(x);
        untouched = look(x);
    }

    public static void main(String[] args) {
        for (Way way : List.of(Way.NOBODY, Way.SOME, Way.ALL)) {
            RefusedTest test = new RefusedTest(way);
            test.marksAndMonks();
            test.done();
            test.foretold();
            test.rows();
        }
        RefusedTest late = new RefusedTest(Way.LATE);
        late.grid("days", of(0, 1, 2, 3, 40, 41));
        late.grid("drift", of(0, 1, 2, 3, 40, 41));
        Due.holds("many were refused: " + refused, refused > 20000);
        Due.end();
    }

    private void marksAndMonks() {
        grid("mark", of(MIN, -1, 0, 60, 61, MAX), of(MIN, 0, 1, 9, 10, MAX), of(MIN, -1, 0, 60, 61, MAX));
        grid("monk", of(MIN, -1, 0, 4, 5, MAX), of(MIN, -1, 0, 99, 100, MAX));
        grid("of", of(MIN, -4, -1, 0, 3, 4, 5, 6, MAX), of(MIN, -1, 0, 1, 2, 3, 4, 5, 6, 7, MAX));
        grid("at", of(MIN, -4, -1, 0, 2, 3, 4, 5, MAX), of(MIN, -1, 0, 1, 2, 3, MAX));
        grid("type", of(MIN, -1, 0, 31, 32, 126, 127, 288, MAX));
        grid("count", of(MIN, -1, 0, 1, 2, 3, 4, 5, 6, 7, 8, 9, MAX));
    }

    private void done() {
        int[] monks = of(MIN, -4, -1, 0, 1, 2, 3, 4, 5, MAX);
        int[] marks = of(MIN, -5, -4, -1, 0, 1, 2, 3, 4, 5, 6, MAX);
        grid("days", of(MIN, -1, 0, 1, 40, 41, MAX));
        grid("send", monks, marks);
        grid("press", monks, marks, of(MIN, -1, 0, 1, 60, 61, MAX));
        grid("ink", marks, of(MIN, -1, 0, 1, 60, 61, MAX));
        grid("drift", of(MIN, -1, 0, 1, 40, 41, MAX));
        grid("undo");
        grid("seed", of(MIN, -4, -1, 0, 1, MAX));
    }

    private void foretold() {
        int[] monks = of(MIN, -4, -1, 0, 2, 3, 4, 5, MAX);
        int[] marks = of(MIN, -4, -1, 0, 3, 4, 5, 6, MAX);
        int[] days = of(MIN, -1, 0, 1, 60, 61, MAX);
        grid("dark", marks, days);
        grid("size", monks, days);
        grid("then", days, of(MIN, -1, 0, 1, 2, 3, MAX));
        grid("gone", marks);
        grid("needs", monks, marks);
        grid("sends", of(MIN, -1, 0, 1, 31, MAX), of(MIN, -2, -1, 0, 2, 3, 4, 5, MAX));
        grid("round", monks, of(MIN, -2, -1, 0, 1, 2, 3, 4, 5, 6, MAX));
        grid("pair", marks, of(MIN, -1, 0, 1, 2, 3, MAX));
        grid("small", monks, marks);
        grid("slip", of(MIN, -1, 0, 6, 7, MAX), of(MIN, -1, 0, 10, 11, MAX), of(MIN, -1, 0, 1, 2, MAX));
        grid("image");
        grid("restore");
    }

    private void rows() {
        int[] monks = of(-1, 0, 1, 5);
        int[] sheets = of(-1, 0, 1, 2, 3, 4);
        int[] lanes = of(-1, 0, 1, 2, 3, 4);
        grid("worn", monks, sheets, of(-1, 0, 2, 3, 4), of(-1, 0, 2, 3, MAX), of(0, 1, 8, 9), of(-1, 0, 1, 2));
        grid("swept", of(-1, 0, 99, 100), sheets, lanes, of(MIN, -1, 0, 1, 2, 3, 23, 24, MAX), of(MIN, 0, 1, 2, 5, 6, MAX));
        grid("film", monks, of(MIN, 0, 1, 3, 24, 25, MAX), sheets, lanes, of(MIN, -1, 0, 2, 3, 23, 24, MAX));
        grid("sheet", of(MIN, -1, 0, 3, 4, MAX), of(MIN, -1, 0, 3, 4, MAX), of(MIN, -1, 0, 1, 24, 25, MAX));
        grid("drop", of(MIN, -1, 0, 1, 2, 3, 4, MAX));
        grid("item", of(MIN, -1, 0, 1, 2, 3, 4, MAX), lanes, of(MIN, -1, 0, 2, 3, 23, 24, MAX), of(MIN, 0, 7, MAX));
        grid("copy", sheets, of(MIN, -1, 0, 2, 3, 24, MAX), sheets, of(MIN, -1, 0, 2, 3, 24, MAX), of(MIN, -1, 0, 1, 4, 24, 25, MAX));
    }

    private static int[] of(int... values) {
        return values;
    }

    /** The call with every choice of these arguments, each time on a rock of its own. */
    private void grid(String name, int[]... choices) {
        int all = 1;
        for (int[] choice : choices) {
            all *= choice.length;
        }
        for (int which = 0; which < all; which++) {
            long[] args = new long[choices.length];
            int rest = which;
            for (int i = choices.length - 1; i >= 0; i--) {
                args[i] = choices[i][rest % choices[i].length];
                rest /= choices[i].length;
            }
            one(name, args);
        }
    }

    private void one(String name, long[] args) {
        ErasingMonks x = new ErasingMonks();
        make(x);
        PlainMonks model = new PlainMonks();
        make(model);
        String call = way + " " + name + Arrays.toString(args);
        int got = Ask.ask(x, name, args);
        Due.due(call, got, Ask.ask(model, name, args));
        boolean foretells = Set.of("of", "at", "count", "dark", "size", "then", "gone", "needs", "sends", "round", "pair",
            "small", "slip", "worn", "swept").contains(name);
        // Of send NONE is where he was.
        if (foretells || got < 0 && !(name.equals("send") && got == -4)) {
            refused++;
            int[] then = look(x);
            Due.due(call + " leaves all, but for place", Arrays.mismatch(untouched, then), -1);
        }
    }

    private void make(Object x) {
        if (way == Way.NOBODY) {
            return;
        }
        write(x, way == Way.ALL ? "4.1,30.4/6,60.1,0.3,9.9/9,50.5;p20>0,s99,n31>1,t9>2,a0>5" : "30.4/6,60.1,0.3;p20>0,s99,t9>2");
        Ask.ask(x, "rock");
        if (way == Way.LATE) {
            for (int i = 0; i < 249; i++) {
                Ask.ask(x, "days", 40);
            }
            Ask.ask(x, "drift", 37);
            write(x, "9.1");
            return;
        }
        int torn = way == Way.ALL ? 2 : 1;
        Ask.ask(x, "sheet", 0, 0, 3);
        Ask.ask(x, "sheet", 1, 2, 24);
        Ask.ask(x, "sheet", 2, 2, way == Way.ALL ? 0 : 4);
        for (int i = 0; i < 3; i++) {
            Ask.ask(x, "item", 0, 0, i, 3 + 2 * i);
            Ask.ask(x, "item", 1, 2, 21 + i, 5 + 2 * i);
            Ask.ask(x, "item", 2, 2, i, 4 + i);
        }
        Ask.ask(x, "press", 1, torn, 3);
        Ask.ask(x, "seed", 77);
        if (way == Way.ALL) {
            Ask.ask(x, "image");
            Ask.ask(x, "drift", 3);
        }
        Ask.ask(x, "press", 1, torn, 60);
        Ask.ask(x, "ink", 0, 9);
        Ask.ask(x, "send", 1, 0);
        Ask.ask(x, "days", way == Way.ALL ? 4 : 1);
        write(x, "5.7/3;p9");
        if (way == Way.ALL) {
            write(x, " ".repeat(82));
        }
    }

    private static void write(Object x, String text) {
        for (int i = 0; i < text.length(); i++) {
            Ask.ask(x, "type", text.charAt(i));
        }
    }

    /** All that can be asked of an object, which is of no use behind it. */
    private static int[] look(ErasingMonks x) {
        List<Integer> told = new ArrayList<>();
        lookAtSheets(x, told);
        // The tape is longer by a blank, if there is room, which ends its last number.
        told.add(x.type(' '));
        for (int known = 0; known <= 8; known++) {
            lookAtRock(x, told);
            told.add(x.seed(0));
            told.add(x.undo());
        }
        told.add(x.restore());
        lookAtRock(x, told);
        told.add(x.seed(0));
        told.add(x.undo());
        lookAtRock(x, told);
        told.add(x.rock());
        lookAtRock(x, told);
        return told.stream().mapToInt(Integer::intValue).toArray();
    }

    private static void lookAtRock(ErasingMonks x, List<Integer> told) {
        for (int what = 0; what <= 8; what++) {
            told.add(x.count(what));
        }
        for (int mark = 0; mark < x.count(0); mark++) {
            for (int what = 0; what <= 6; what++) {
                told.add(x.of(mark, what));
            }
        }
        for (int monk = 0; monk < x.count(1); monk++) {
            for (int what = 0; what <= 2; what++) {
                told.add(x.at(monk, what));
            }
        }
    }

    /** Of an item 1 .. 9 these numbers of crumbs tell which it is; another one is told as such. */
    private static void lookAtSheets(ErasingMonks x, List<Integer> told) {
        for (int sheet = 0; sheet < 4; sheet++) {
            for (int i : of(0, 1, 2, 3, 21, 22, 23)) {
                for (int crumbs : of(4, 5, 6, 7, 8, 9)) {
                    told.add(x.swept(crumbs, sheet, sheet == 0 ? 0 : 2, i, 1));
                }
            }
        }
    }
}
