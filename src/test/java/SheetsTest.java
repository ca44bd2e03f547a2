/** Promises 28 to 34: worn, swept, film, sheet, drop, item, copy. */
public final class SheetsTest {
    private static final int MIN = Integer.MIN_VALUE;
    private static final int MAX = Integer.MAX_VALUE;

    public static void main(String[] args) {
        worn();
        wornRefused();
        swept();
        sweptRefused();
        film();
        sheet();
        drop();
        item();
        copy();
        Due.end();
    }

    /** Puts a row of a lane on a sheet. */
    private static void row(ErasingMonks x, int sheet, int lane, long... items) {
        Due.due("sheet", x.sheet(sheet, lane, items.length), items.length);
        for (int i = 0; i < items.length; i++) {
            Due.due("item", x.item(sheet, lane, i, items[i]), 1);
        }
    }

    /** The item of a sheet, found by a monk of its size who is sent to none. */
    private static boolean holds(ErasingMonks x, int sheet, int lane, int i, int size) {
        return x.worn(0, sheet, lane, i, 1, 0) == 31 && x.size(0, 1) == size;
    }

    private static void worn() {
        ErasingMonks x = Due.on("50.4,9.1;n60>0,p9");
        row(x, 0, 1, 7, 56, 52, 48);
        Due.due("P28 PLAIN, NOVICE, STIFF wear alike", x.worn(0, 0, 1, 1, 3, 0), 1 | 2 | 4);
        Due.due("P28 hard 4", x.worn(0, 0, 1, 1, 3, 1), 16);
        row(x, 0, 3, 57, 54);
        Due.due("P28 SAINT", x.worn(0, 0, 3, 0, 2, 0), 8);
        Due.due("P28 hard 3", x.worn(0, 0, 3, 0, 2, 1), 8);
        row(x, 0, 0, 59);
        Due.due("P28 ABBOT", x.worn(0, 0, 0, 0, 1, 0), 16);
        Due.due("P28 hard 1", x.worn(0, 0, 0, 0, 1, 1), 2);
        row(x, 0, 0, 58);
        Due.due("P28 nobody", x.worn(0, 0, 0, 0, 1, 0), 0);
        Due.due("P28 hard 2", x.worn(0, 0, 0, 0, 1, 1), 4);
        row(x, 0, 2, 9, 9, 9, 9, 9, 9, 9, 9);
        Due.due("P28 to none: any", x.worn(1, 0, 2, 0, 8, 0), 31);
        // A long is compared whole.
        row(x, 0, 3, (1L << 32) + 56);
        Due.due("P28 a long", x.worn(0, 0, 3, 0, 1, 0), 0);
        // SAINT: half of HARD and 1: 2 and 3 alike.
        x = Due.on("50.4;t60>0");
        row(x, 0, 2, 58, 56);
        Due.due("P28 SAINT by 2 or 3", x.worn(0, 0, 2, 0, 2, 1), 4 | 8);
        Due.due("P28 no kind wears by 2 of 4", x.worn(0, 0, 2, 0, 2, 0), 0);
        // The kinds part by how soon the mark is gone: 9 lasts PLAIN for 3 rubs, STIFF for 2.
        x = Due.on("9.4;p60>0");
        row(x, 0, 2, 56, 52, 48, 48);
        Due.due("P28 PLAIN", x.worn(0, 0, 2, 0, 4, 0), 1);
        Due.due("P28 still hard 4", x.worn(0, 0, 2, 0, 4, 1), 16);
        row(x, 0, 2, 56, 52, 52, 52);
        Due.due("P28 NOVICE, STIFF", x.worn(0, 0, 2, 0, 4, 0), 2 | 4);
        // Others rub there, too.
        x = Due.on("9.4;s60>0,p60>0");
        row(x, 0, 2, 56, 56);
        Due.due("P28 by what the first leaves", x.worn(1, 0, 2, 0, 2, 0), 1 | 2 | 4);
        // A mark that is gone wears nobody, however hard it is.
        x = Due.on("0.4;p5>0");
        row(x, 0, 2, 5, 5);
        Due.due("P28 hard 1 to 9", x.worn(0, 0, 2, 0, 2, 1), 0x3fe);
        // Down to 0.
        x = Due.on("50.4;p5>0");
        row(x, 0, 2, 0, 0);
        Due.due("P28 hard 5 to 9", x.worn(0, 0, 2, 0, 2, 1), 0x3e0);
    }

    private static void wornRefused() {
        ErasingMonks x = Due.on("50.4,9.1;n60>0,p9");
        row(x, 0, 2, 9, 9, 9);
        int[][] bad = {{2, 0, 2, 0, 1, 0}, {-1, 0, 2, 0, 1, 0}, {0, 4, 2, 0, 1, 0}, {0, -1, 2, 0, 1, 0},
            {0, 0, 4, 0, 1, 0}, {0, 0, -1, 0, 1, 0}, {0, 0, 2, 0, 0, 0}, {0, 0, 2, 0, 9, 0}, {0, 0, 2, 0, 1, 2},
            {0, 0, 2, 0, 1, -1}, {0, 1, 2, -1, 9, 0}, {0, 0, 2, 0, MAX, 0}};
        for (int[] b : bad) {
            Due.due("P28 bad", x.worn(b[0], b[1], b[2], b[3], b[4], b[5]), -1);
        }
        Due.due("P28 null", x.worn(0, 1, 2, -1, 1, 0), -11);
        Due.due("P28 null ahead of not", x.worn(1, 1, 2, 0, 1, 1), -11);
        Due.due("P28 cast", x.worn(0, 0, 3, -1, 1, 0), -12);
        Due.due("P28 index below", x.worn(0, 0, 2, -1, 1, 0), -13);
        Due.due("P28 index above", x.worn(0, 0, 2, 3, 1, 0), -13);
        Due.due("P28 index above", x.worn(0, 0, 2, 1, 3, 0), -13);
        Due.due("P28 index above", x.worn(0, 0, 2, MAX, 1, 0), -13);
        Due.due("P28 index below", x.worn(0, 0, 2, MIN, 8, 0), -13);
        Due.due("P28 index ahead of not", x.worn(1, 0, 2, 3, 1, 1), -13);
        Due.due("P28 not: sent to none", x.worn(1, 0, 2, 0, 1, 1), -2);
        Due.due("P28 the kind of him", x.worn(1, 0, 2, 0, 3, 0), 31);
    }

    private static void swept() {
        ErasingMonks x = new ErasingMonks();
        row(x, 3, 0, 0, 1, 1, 1, 1, 1);
        int[] choose = {1, 100, 5050, 171700, 4421275};
        for (int k = 1; k <= 5; k++) {
            Due.due("P29 99 of " + k + " ones", x.swept(99, 3, 0, 1, k), choose[k - 1] % 1000003);
            Due.due("P29 no crumbs", x.swept(0, 3, 0, 1, k), 1);
        }
        row(x, 3, 1, 9, 7, 9);
        Due.due("P29 9 a, 7 b", x.swept(63, 3, 1, 0, 2), 2);
        Due.due("P29 8 can't be", x.swept(8, 3, 1, 0, 2), 0);
        Due.due("P29 like ones are told apart", x.swept(18, 3, 1, 0, 3), 3);
        Due.due("P29 from item 1", x.swept(14, 3, 1, 1, 1), 1);
        row(x, 3, 0, 256 + 3);
        Due.due("P29 lowest bits", x.swept(9, 3, 0, 0, 1), 1);
    }

    private static void sweptRefused() {
        ErasingMonks x = new ErasingMonks();
        row(x, 0, 3, 1, 9, 0, 10, -1, (1L << 32) + 1, 5);
        int[][] bad = {{-1, 0, 3, 0, 1}, {100, 0, 3, 0, 1}, {0, 4, 3, 0, 1}, {0, -1, 3, 0, 1}, {0, 0, 4, 0, 1},
            {0, 0, -1, 0, 1}, {0, 0, 3, 0, 0}, {0, 0, 3, 0, 6}, {0, 1, 2, -1, -1}};
        for (int[] b : bad) {
            Due.due("P29 bad", x.swept(b[0], b[1], b[2], b[3], b[4]), -1);
        }
        Due.due("P29 null", x.swept(0, 1, 3, -1, 1), -11);
        Due.due("P29 cast", x.swept(0, 0, 2, -1, 1), -12);
        Due.due("P29 index", x.swept(0, 0, 3, -1, 1), -13);
        Due.due("P29 index", x.swept(0, 0, 3, 7, 1), -13);
        Due.due("P29 index ahead of not", x.swept(0, 0, 3, 3, 5), -13);
        Due.due("P29 index", x.swept(0, 0, 3, MAX, 5), -13);
        Due.due("P29 just", x.swept(9, 0, 3, 0, 2), 2);
        for (int i = 2; i < 6; i++) {
            Due.due("P29 not", x.swept(0, 0, 3, i, 1), -2);
        }
        Due.due("P29 not, the last", x.swept(0, 0, 3, 0, 3), -2);
        Due.due("P29 is", x.swept(5, 0, 3, 6, 1), 1);
    }

    private static void film() {
        for (int lane = 0; lane < 4; lane++) {
            ErasingMonks x = Due.on("50.4;p60>0,n9>0");
            x.sheet(2, lane, 24);
            Due.due("P30 twenty-four", x.film(0, 24, 2, lane, 0), 24);
            Due.due("P30 as it would be", x.worn(0, 2, lane, 0, 8, 0) & 1, 1);
            Due.due("P30 three from 20 on", x.film(1, 3, 2, lane, 20), 3);
            Due.due("P30 NOVICE, like PLAIN, STIFF", x.worn(1, 2, lane, 20, 3, 0), 1 | 2 | 4);
            Due.due("P30 the first", x.worn(0, 2, lane, 0, 8, 0) & 1, 1);
            Due.due("P30 full", x.film(0, 24, 2, lane, 1), -13);
            Due.due("P30 refused changes nothing", x.worn(1, 2, lane, 20, 3, 0), 1 | 2 | 4);
            Due.due("P30 one at the end", x.film(0, 1, 2, lane, 23), 1);
            Due.due("P30 SIZE 56", x.worn(0, 2, lane, 23, 1, 0), 1 | 2 | 4);
        }
        ErasingMonks x = Due.on("50.4;p60>0");
        x.sheet(0, 2, 5);
        int[][] bad = {{1, 1, 0, 2, 0}, {-1, 1, 0, 2, 0}, {0, 0, 0, 2, 0}, {0, 25, 0, 2, 0}, {0, 1, 4, 2, 0},
            {0, 1, -1, 2, 0}, {0, 1, 0, 4, 0}, {0, 1, 0, -1, 0}, {0, -3, 1, 1, -1}};
        for (int[] b : bad) {
            Due.due("P30 bad", x.film(b[0], b[1], b[2], b[3], b[4]), -1);
        }
        Due.due("P30 null", x.film(0, 24, 1, 2, -1), -11);
        Due.due("P30 cast", x.film(0, 24, 0, 1, -1), -12);
        Due.due("P30 index", x.film(0, 6, 0, 2, 0), -13);
        Due.due("P30 index", x.film(0, 1, 0, 2, -1), -13);
        Due.due("P30 index", x.film(0, 1, 0, 2, 5), -13);
        Due.due("P30 index", x.film(0, 24, 0, 2, MAX), -13);
        Due.due("P30 index", x.film(0, 24, 0, 2, MIN), -13);
        Due.due("P30 five", x.film(0, 5, 0, 2, 0), 5);
    }

    private static void sheet() {
        ErasingMonks x = new ErasingMonks();
        x.monk(0, 0);
        Due.due("P31 bad sheet", x.sheet(4, 0, 1), -1);
        Due.due("P31 bad sheet", x.sheet(-1, 0, -1), -1);
        Due.due("P31 bad lane", x.sheet(0, 4, -1), -1);
        Due.due("P31 bad lane", x.sheet(0, -1, 1), -1);
        Due.due("P31 above 24", x.sheet(0, 0, 25), -1);
        Due.due("P31 above 24", x.sheet(0, 0, MAX), -1);
        Due.due("P31 size", x.sheet(0, 0, -1), -14);
        Due.due("P31 size", x.sheet(3, 3, MIN), -14);
        Due.due("P31 refused", x.drop(0), -11);
        Due.due("P31 no items", x.sheet(0, 0, 0), 0);
        Due.due("P31 is a row still", x.item(0, 0, 0, 1), -13);
        Due.due("P31 had none", x.drop(0), 0);
        Due.due("P31 most", x.sheet(3, 3, 24), 24);
        row(x, 1, 2, 4, 5, 6);
        Due.due("P31 refused keeps the row", x.sheet(1, 2, -1), -14);
        Due.due("P31 refused keeps the row", x.sheet(1, 2, 25), -1);
        Due.due("P31 the row", x.swept(4, 1, 2, 0, 1), 1);
        Due.due("P31 a new row", x.sheet(1, 2, 3), 3);
        for (int i = 0; i < 3; i++) {
            Due.holds("P31 of zeros", holds(x, 1, 2, i, 0));
        }
        Due.due("P31 another lane", x.sheet(1, 0, 2), 2);
        Due.due("P31 the old lane", x.item(1, 2, 0, 1), -12);
        Due.due("P31 the new length", x.item(1, 0, 2, 1), -13);
    }

    private static void drop() {
        ErasingMonks x = new ErasingMonks();
        Due.due("P32 bad", x.drop(-1), -1);
        Due.due("P32 bad", x.drop(4), -1);
        Due.due("P32 null", x.drop(0), -11);
        x.sheet(0, 1, 7);
        Due.due("P32 had", x.drop(0), 7);
        Due.due("P32 nothing then", x.drop(0), -11);
        Due.due("P32 nothing then", x.item(0, 1, 0, 1), -11);
        Due.due("P32 nothing then", x.copy(0, 0, 0, 0, 0), -11);
        x.sheet(0, 1, 2);
        Due.due("P32 again", x.drop(0), 2);
    }

    private static void item() {
        ErasingMonks x = new ErasingMonks();
        for (int lane = 0; lane < 4; lane++) {
            x.sheet(lane, lane, 2);
        }
        Due.due("P33 bad", x.item(4, 0, 0, 1), -1);
        Due.due("P33 bad", x.item(-1, 0, 0, 1), -1);
        Due.due("P33 bad", x.item(0, 4, 0, 1), -1);
        Due.due("P33 bad", x.item(0, -1, -1, 1), -1);
        Due.due("P33 cast", x.item(0, 1, -1, 1), -12);
        Due.due("P33 index", x.item(0, 0, -1, 1), -13);
        Due.due("P33 index", x.item(0, 0, 2, 1), -13);
        Due.due("P33 index", x.item(0, 0, MAX, 1), -13);
        x.drop(2);
        Due.due("P33 null", x.item(2, 1, 9, 1), -11);
        x.sheet(2, 2, 2);
        // 7 in the lowest bits of each lane, and something above them.
        long[] above = {1L << 8, 1L << 16, 1L << 32};
        for (int lane = 0; lane < 4; lane++) {
            for (int high = 0; high < 3; high++) {
                Due.due("P33 becomes", x.item(lane, lane, 1, above[high] + 7), 1);
                Due.due("P33 its lowest bits", x.swept(7, lane, lane, 1, 1), high >= lane ? 1 : -2);
            }
        }
        // The highest bit is the sign.
        ErasingMonks y = new ErasingMonks();
        y.monk(0, 99);
        y.sheet(0, 0, 1);
        y.item(0, 0, 0, 256 + 99);
        Due.due("P33 a byte", y.worn(0, 0, 0, 0, 1, 0), 31);
        y.item(0, 0, 0, Long.MIN_VALUE + 99);
        Due.due("P33 a byte", y.worn(0, 0, 0, 0, 1, 0), 31);
    }

    private static void copy() {
        ErasingMonks x = new ErasingMonks();
        row(x, 0, 2, 1, 2, 3, 4, 5, 6);
        row(x, 1, 2, 9, 9, 9, 9);
        x.sheet(2, 1, 4);
        int[][] bad = {{-1, 0, 1, 0, 1}, {4, 0, 1, 0, 1}, {0, 0, -1, 0, 1}, {0, 0, 4, 0, 1}, {3, 0, 4, 0, 1}};
        for (int[] b : bad) {
            Due.due("P34 bad", x.copy(b[0], b[1], b[2], b[3], b[4]), -1);
        }
        Due.due("P34 null from", x.copy(3, -1, 0, 0, 1), -11);
        Due.due("P34 null to", x.copy(0, -1, 3, 0, 1), -11);
        Due.due("P34 null ahead of cast", x.copy(2, 0, 3, 0, 1), -11);
        Due.due("P34 cast", x.copy(0, -1, 2, 0, 1), -12);
        Due.due("P34 cast of none", x.copy(0, 0, 2, 0, 0), -12);
        int[][] index = {{-1, 0, 1}, {0, -1, 1}, {6, 0, 1}, {0, 4, 1}, {3, 0, 4}, {0, 1, 4}, {0, 0, 5}, {0, 0, -1},
            {7, 0, 0}, {0, 5, 0}, {MAX, 0, 1}, {0, MAX, MAX}, {1, 1, MAX}, {MIN, 0, MIN}, {0, 0, MIN}};
        for (int[] b : index) {
            Due.due("P34 index " + b[0] + " " + b[1] + " " + b[2], x.copy(0, b[0], 1, b[1], b[2]), -13);
        }
        items(x, "P34 refused", 1, 9, 9, 9, 9);
        Due.due("P34 none at the ends", x.copy(0, 6, 1, 4, 0), 0);
        Due.due("P34 two", x.copy(0, 2, 1, 1, 2), 2);
        items(x, "P34 two", 1, 9, 3, 4, 9);
        Due.due("P34 to the right", x.copy(0, 0, 0, 1, 5), 5);
        items(x, "P34 as if all were taken ahead", 0, 1, 1, 2, 3, 4, 5);
        Due.due("P34 to the left", x.copy(0, 2, 0, 0, 4), 4);
        items(x, "P34 as if all were taken ahead", 0, 2, 3, 4, 5, 4, 5);
    }

    /** Each item of a sheet of ints is as told: so many crumbs, and no fewer, come together in one way. */
    private static void items(ErasingMonks x, String what, int sheet, int... due) {
        for (int i = 0; i < due.length; i++) {
            for (int n = 1; n <= due[i]; n++) {
                Due.due(what + " item " + i, x.swept(n, sheet, 2, i, 1), n == due[i] ? 1 : 0);
            }
        }
    }
}
