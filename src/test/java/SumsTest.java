/**
 * Promises 4, 11, 20, 24 by sums in place of rubs, for every MARK there can be and the KINDS of whom each RUB is like the
 * other (PLAIN, STIFF, ABBOT): of r RUBS that take a MARK away the last finds WOOL below 20 and a SIZE above 0.
 */
public final class SumsTest {
    private static final int[] KINDS = {0, 2, 4};
    private static final int[] PALER = {4, 8, 8};
    private static final int[] WOOL = {1, 3, 2};

    public static void main(String[] args) {
        for (int hard = 1; hard <= 9; hard++) {
            for (int dark = 0; dark <= 60; dark++) {
                for (int under = 0; under <= 60; under++) {
                    for (int each = 0; each < KINDS.length; each++) {
                        oneMark(dark, hard, under, each);
                    }
                }
            }
        }
        Due.end();
    }

    private static void oneMark(int dark, int hard, int under, int each) {
        String told = dark + "." + hard + "/" + under + " kind " + KINDS[each];
        int wear = KINDS[each] == 4 ? 1 : hard;
        int rubs = rubsOf(dark, under, PALER[each], WOOL[each]);
        int least = rubs < 0 ? -4 : rubs == 0 ? 0 : (rubs - 1) * wear + 1;
        int small = least > 99 ? -4 : least;
        ErasingMonks x = new ErasingMonks();
        x.mark(dark, hard, under);
        x.monk(KINDS[each], small > 0 ? small : 99);
        x.monk(KINDS[each], small > 0 ? small - 1 : 0);
        Due.due(told + " small", x.small(0, 0), small);
        Due.due(told + " needs of the least", x.needs(0, 0), small < 0 ? -4 : rubs);
        Due.due(told + " needs of one less", x.needs(1, 0), rubs == 0 ? 0 : -4);
        pressed(x, told, rubs, small, wear);
        if (small == -4) {
            left(x, told, dark, under, PALER[each], WOOL[each], wear);
        }
    }

    private static void pressed(ErasingMonks x, String told, int rubs, int small, int wear) {
        if (small > 0) {
            Due.due(told + " pressed", x.press(0, 0, 60), rubs);
            Due.due(told + " gone", x.of(0, 4), 1);
            Due.due(told + " smaller", x.at(0, 1), Math.max(0, small - rubs * wear));
        }
        if (rubs == 0) {
            Due.due(told + " gone ahead", x.press(0, 0, 60), -2);
        }
    }

    /** What a MONK of SIZE 99 leaves of a MARK that he can't take away: it is TORN, or he is of SIZE 0. */
    private static void left(ErasingMonks x, String told, int dark, int under, int paler, int wool, int wear) {
        int rubs = Math.min((20 + wool - 1) / wool, (99 + wear - 1) / wear);
        int upper = Math.max(1, (dark + paler - 1) / paler);
        boolean bare = rubs > upper || rubs == upper && rubs * wool < 20;
        Due.due(told + " pressed in vain", x.press(0, 0, 60), rubs);
        Due.due(told + " dark", x.of(0, 0), bare ? under - (rubs - upper) * paler : Math.max(0, dark - rubs * paler));
        Due.due(told + " under", x.of(0, 2), bare ? 0 : under);
        Due.due(told + " wool", x.of(0, 3), Math.min(20, rubs * wool));
        Due.due(told + " torn", x.of(0, 5), rubs * wool >= 20 ? 1 : 0);
        Due.due(told + " not gone", x.of(0, 4), 0);
        Due.due(told + " crumbs", x.count(3), Math.min(99, rubs * wear));
    }

    /** How many RUBS of a MONK who is large enough take it away, or -1: it is TORN ahead of that. */
    private static int rubsOf(int dark, int under, int paler, int wool) {
        if (dark == 0 && under == 0) {
            return 0;
        }
        int upper = Math.max(1, (dark + paler - 1) / paler);
        int lower = (under + paler - 1) / paler;
        boolean tornAbove = upper * wool >= 20 && under > 0;
        boolean tornBelow = (upper + lower - 1) * wool >= 20;
        return tornAbove || tornBelow ? -1 : upper + lower;
    }
}
