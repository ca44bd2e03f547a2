/** The bounds that promises 28 to 34 tell, a run of its own for each sentence. */
public final class BoundsSheetsTest {
    public static void main(String[] args) {
        worn();
        wornRows();
        swept();
        sweptItems();
        film();
        sheet();
        drop();
        item();
        copy();
        copyIndex();
        Script.named("worn", "+", "BAD", "NULL", "CAST", "INDEX", "NOT");
        Script.named("swept", "+", "BAD", "NULL", "CAST", "INDEX", "NOT");
        Script.named("film", "+", "BAD", "NULL", "CAST", "INDEX");
        Script.named("sheet", "+", "BAD", "SIZE");
        Script.named("drop", "+", "BAD", "NULL");
        Script.named("item", "+", "BAD", "NULL", "CAST", "INDEX");
        Script.named("copy", "+", "BAD", "NULL", "CAST", "INDEX");
        Due.end();
    }

    private static void worn() {
        String row = "'50.4;p60'=1 sheet(0,2,8)=8 film(0,8,0,2,0)=8";
        Script.run("P28 n DAYS (1 .. 8)", row, "worn(0,0,2,0,0,0)=BAD worn(0,0,2,0,1,0)=31 worn(0,0,2,0,8,0)=31",
            "worn(0,0,2,0,9,0)=BAD worn(0,0,2,0,-1,0)=BAD worn(0,0,2,0,MIN,0)=BAD worn(0,0,2,0,MAX,0)=BAD");
        Script.run("P28 what 0 .. 1", row, "worn(0,0,2,0,1,-1)=BAD worn(0,0,2,0,1,2)=BAD worn(0,0,2,0,1,MIN)=BAD",
            "worn(0,0,2,0,1,MAX)=BAD");
        Script.run("P28 BAD: no such monk, SHEET, LANE", row, "worn(-1,0,2,0,1,0)=BAD worn(1,0,2,0,1,0)=BAD",
            "worn(0,-1,2,0,1,0)=BAD worn(0,4,2,0,1,0)=BAD worn(0,0,-1,0,1,0)=BAD worn(0,0,4,0,1,0)=BAD",
            "worn(MAX,0,2,0,1,0)=BAD worn(0,MIN,2,0,1,0)=BAD worn(0,0,MAX,0,1,0)=BAD");
        Script.run("P28 NULL", row, "worn(0,1,2,0,1,0)=NULL worn(0,3,2,0,1,0)=NULL drop(0)=8 worn(0,0,2,0,1,0)=NULL");
        Script.run("P28 CAST", row, "worn(0,0,0,0,1,0)=CAST worn(0,0,1,0,1,0)=CAST worn(0,0,3,0,1,0)=CAST");
        Script.run("P28 INDEX: from item i on", row, "worn(0,0,2,-1,1,0)=INDEX worn(0,0,2,7,1,0)=31 worn(0,0,2,8,1,0)=INDEX",
            "worn(0,0,2,1,8,0)=INDEX worn(0,0,2,1,7,0)=31 worn(0,0,2,MIN,8,0)=INDEX worn(0,0,2,MAX,1,0)=INDEX",
            "worn(0,0,2,MAX,8,0)=INDEX worn(0,0,2,-1,8,0)=INDEX");
        Script.run("P28 INDEX: a row of no items", "monk(0,9)=0 sheet(0,2,0)=0 worn(0,0,2,0,1,0)=INDEX");
        Script.run("P28 NOT: what 1, and he is SENT to none", row, "worn(0,0,2,0,8,1)=NOT worn(0,0,2,0,8,0)=31 send(0,0)=NONE",
            "worn(0,0,2,0,8,1)=0 worn(0,0,2,0,8,0)=0");
    }

    private static void wornRows() {
        Script.run("P28 how HARD the MARK to which he is SENT might be: the last of six",
            "'9.1,9.1,9.1,9.1,9.1,60.4;p9,p60>5'=6 sheet(0,0,2)=2 film(1,2,0,0,0)=2 worn(1,0,0,0,2,1)=16 worn(0,0,0,0,2,1)=NOT");
        Script.run("P28 KINDS (a set): all, none", "'0.1;p5>0'=1 sheet(0,0,2)=2 film(0,2,0,0,0)=2 worn(0,0,0,0,2,0)=31",
            "item(0,0,1,4)=1 worn(0,0,0,0,2,0)=0 worn(0,0,0,0,1,0)=31");
        Script.run("P28 how HARD (1 .. 9, a set): all, none", "'0.1;p5>0'=1 sheet(0,0,1)=1 item(0,0,0,5)=1 worn(0,0,0,0,1,1)=1022",
            "item(0,0,0,4)=1 worn(0,0,0,0,1,1)=0");
        Script.run("P28 how HARD: the least, the most", "'60.5;p99>0'=1 sheet(0,0,2)=2 item(0,0,0,98)=1 item(0,0,1,90)=1",
            "worn(0,0,0,0,1,1)=2 worn(0,0,0,1,1,1)=512");
        Script.run("P28 how HARD: all that would wear him to 0", "'60.5;p3>0'=1 sheet(0,0,1)=1 worn(0,0,0,0,1,1)=1016");
        Script.run("P28 each of the next n DAYS, the last, too",
            "'9.4;p60>0'=1 sheet(0,1,8)=8 film(0,8,0,1,0)=8 worn(0,0,1,0,8,0)=1 worn(0,0,1,0,8,1)=16 item(0,1,7,47)=1",
            "worn(0,0,1,0,8,0)=0 worn(0,0,1,0,8,1)=0 worn(0,0,1,0,7,0)=1");
        Script.run("P28 an item is taken whole", "monk(0,60)=0 sheet(0,3,1)=1 item(0,3,0,4294967356)=1 worn(0,0,3,0,1,0)=0",
            "sheet(0,2,1)=1 item(0,2,0,4294967356)=1 worn(0,0,2,0,1,0)=31 item(0,2,0,-60)=1 worn(0,0,2,0,1,0)=0");
        Script.run("P28 corners part the KINDS", "'8.1;p30>0'=1 sheet(0,2,2)=2 item(0,2,0,29)=1 item(0,2,1,29)=1",
            "worn(0,0,2,0,2,0)=20 item(0,2,1,28)=1 worn(0,0,2,0,2,0)=11");
        Script.run("P28 nothing is changed", "'60.4;p60>0'=1 sheet(0,2,1)=1 worn(0,0,2,0,1,0)=0 worn(0,0,2,0,1,1)=0 at(0,0)=0",
            "at(0,1)=60 of(0,1)=4 of(0,0)=60 count(2)=0");
    }

    private static void swept() {
        String row = "sheet(0,2,5)=5 item(0,2,0,1)=1 item(0,2,1,9)=1 item(0,2,2,1)=1 item(0,2,3,1)=1 item(0,2,4,1)=1";
        Script.run("P29 n CRUMBS (0 .. 99)", row, "swept(-1,0,2,0,1)=BAD swept(0,0,2,0,1)=1 swept(99,0,2,0,1)=1",
            "swept(100,0,2,0,1)=BAD swept(MIN,0,2,0,1)=BAD swept(MAX,0,2,0,1)=BAD");
        Script.run("P29 k (1 .. 5) MARKS", row, "swept(0,0,2,0,0)=BAD swept(0,0,2,0,1)=1 swept(0,0,2,0,5)=1 swept(0,0,2,0,6)=BAD",
            "swept(0,0,2,0,-1)=BAD swept(0,0,2,0,MIN)=BAD swept(0,0,2,0,MAX)=BAD");
        Script.run("P29 BAD: no such SHEET, LANE", row, "swept(0,-1,2,0,1)=BAD swept(0,4,2,0,1)=BAD swept(0,0,-1,0,1)=BAD",
            "swept(0,0,4,0,1)=BAD swept(0,MAX,2,0,1)=BAD swept(0,0,MIN,0,1)=BAD");
        Script.run("P29 NULL, CAST", row, "swept(0,1,2,0,1)=NULL swept(0,0,1,0,1)=CAST swept(0,0,3,0,1)=CAST swept(0,0,0,0,1)=CAST");
        Script.run("P29 INDEX", row, "swept(0,0,2,-1,1)=INDEX swept(0,0,2,4,1)=1 swept(0,0,2,5,1)=INDEX swept(0,0,2,1,5)=INDEX",
            "swept(0,0,2,1,4)=1 swept(0,0,2,MAX,5)=INDEX swept(0,0,2,MIN,1)=INDEX sheet(0,2,0)=0 swept(0,0,2,0,1)=INDEX");
    }

    private static void sweptItems() {
        String row = "sheet(0,3,6)=6 item(0,3,0,0)=1 item(0,3,1,1)=1 item(0,3,2,9)=1 item(0,3,3,10)=1 item(0,3,4,-1)=1"
            + " item(0,3,5,4294967297)=1";
        Script.run("P29 NOT: an item is not 1 .. 9", row, "swept(0,0,3,0,1)=NOT swept(1,0,3,1,1)=1 swept(9,0,3,2,1)=1",
            "swept(0,0,3,3,1)=NOT swept(0,0,3,4,1)=NOT swept(0,0,3,5,1)=NOT");
        Script.run("P29 NOT: the first, the last of k, none beside them", row, "swept(0,0,3,0,3)=NOT swept(0,0,3,1,3)=NOT",
            "swept(9,0,3,1,2)=2 swept(0,0,3,1,5)=NOT");
        Script.run("P29 in no way", "sheet(0,0,2)=2 item(0,0,0,7)=1 item(0,0,1,9)=1 swept(8,0,0,0,2)=0 swept(47,0,0,0,2)=0",
            "swept(48,0,0,0,2)=1 swept(6,0,0,0,1)=0 swept(7,0,0,0,1)=1");
        Script.run("P29 like ones are told apart", "sheet(0,0,2)=2 item(0,0,0,9)=1 item(0,0,1,9)=1 swept(99,0,0,0,2)=12");
        Script.run("P29 left over by 1000003", "sheet(0,0,5)=5 item(0,0,0,1)=1 item(0,0,1,1)=1 item(0,0,2,1)=1 item(0,0,3,1)=1",
            "item(0,0,4,1)=1 swept(67,0,0,0,5)=971635 swept(68,0,0,0,5)=28787 swept(99,0,0,0,5)=421263 swept(99,0,0,0,4)=171700");
        Script.run("P29 each call by itself", "sheet(0,0,2)=2 item(0,0,0,1)=1 item(0,0,1,2)=1 swept(99,0,0,0,2)=50 swept(4,0,0,1,1)=1",
            "swept(3,0,0,1,1)=0 swept(0,0,0,1,1)=1 swept(99,0,0,0,1)=1");
    }

    private static void film() {
        String row = "'60.4;p60>0'=1 sheet(0,2,24)=24 sheet(1,0,3)=3";
        Script.run("P30 n DAYS (1 .. 24)", row, "film(0,0,0,2,0)=BAD film(0,-1,0,2,0)=BAD film(0,1,0,2,0)=1 film(0,24,0,2,0)=24",
            "film(0,25,0,2,0)=BAD film(0,MIN,0,2,0)=BAD film(0,MAX,0,2,0)=BAD");
        Script.run("P30 BAD: no such monk, SHEET, LANE", row, "film(-1,1,0,2,0)=BAD film(1,1,0,2,0)=BAD film(0,1,-1,2,0)=BAD",
            "film(0,1,4,2,0)=BAD film(0,1,0,-1,0)=BAD film(0,1,0,4,0)=BAD film(MIN,1,0,2,0)=BAD film(0,1,MAX,2,0)=BAD");
        Script.run("P30 NULL, CAST", row, "film(0,1,2,2,0)=NULL film(0,1,3,0,0)=NULL film(0,1,0,0,0)=CAST film(0,1,1,2,0)=CAST");
        Script.run("P30 INDEX", row, "film(0,1,0,2,-1)=INDEX film(0,1,0,2,23)=1 film(0,1,0,2,24)=INDEX film(0,24,0,2,1)=INDEX",
            "film(0,23,0,2,1)=23 film(0,1,0,2,MAX)=INDEX film(0,24,0,2,MAX)=INDEX film(0,24,0,2,MIN)=INDEX sheet(2,2,0)=0",
            "film(0,1,2,2,0)=INDEX");
        Script.run("P30 what INDEX refuses comes to no item", "'60.4;p9>0'=1 sheet(0,0,3)=3 item(0,0,0,7)=1 item(0,0,1,7)=1",
            "item(0,0,2,7)=1 film(0,4,0,0,0)=INDEX film(0,3,0,0,1)=INDEX film(0,2,0,0,-1)=INDEX swept(7,0,0,0,1)=1",
            "swept(1,0,0,0,1)=0 swept(7,0,0,1,1)=1 swept(5,0,0,1,1)=0 swept(7,0,0,2,1)=1 swept(1,0,0,2,1)=0");
        Script.run("P30 behind 1, 2, .. n DAYS, none beside them", "'60.2;p7>0'=1 sheet(0,0,5)=5 item(0,0,0,9)=1 item(0,0,4,9)=1",
            "film(0,3,0,0,1)=3 swept(9,0,0,0,1)=1 swept(3,0,0,0,1)=0 swept(5,0,0,1,1)=1 swept(1,0,0,1,1)=0 swept(3,0,0,2,1)=1",
            "swept(2,0,0,2,1)=0 swept(1,0,0,3,1)=1 swept(9,0,0,4,1)=1 swept(3,0,0,4,1)=0 at(0,1)=7 count(2)=0");
        Script.run("P30 beyond day 9999", "'60.4;p60'=1 249*days(40)=0 days(39)=0 send(0,0)=NONE sheet(0,0,24)=24",
            "film(0,24,0,0,0)=24 worn(0,0,0,0,8,1)=16 count(2)=9999");
    }

    private static void sheet() {
        Script.run("P31 SHEETS 0 .. 3, LANES 0 .. 3", "sheet(-1,0,1)=BAD sheet(0,0,1)=1 sheet(3,3,1)=1 sheet(4,0,1)=BAD",
            "sheet(0,-1,1)=BAD sheet(0,4,1)=BAD sheet(MIN,0,1)=BAD sheet(0,MAX,1)=BAD");
        Script.run("P31 0 to 24 items", "sheet(0,0,0)=0 drop(0)=0 sheet(0,0,24)=24 drop(0)=24");
        Script.run("P31 BAD: also n above 24", "sheet(0,0,25)=BAD sheet(0,0,MAX)=BAD drop(0)=NULL");
        Script.run("P31 SIZE: n below 0", "sheet(0,0,-1)=SIZE sheet(0,0,MIN)=SIZE drop(0)=NULL sheet(4,0,-1)=BAD sheet(0,4,-1)=BAD");
        Script.run("P31 what is refused keeps the row", "sheet(0,0,2)=2 item(0,0,1,5)=1 sheet(0,1,-1)=SIZE sheet(0,1,25)=BAD",
            "sheet(0,4,9)=BAD swept(5,0,0,1,1)=1 swept(1,0,0,1,1)=0 drop(0)=2");
        Script.run("P31 a new row: of zeros, of its own LANE and number", "monk(0,0)=0 sheet(0,0,3)=3 item(0,0,0,5)=1 sheet(0,0,3)=3",
            "worn(0,0,0,0,3,0)=31 item(0,0,2,9)=1 sheet(0,0,2)=2 item(0,0,2,9)=INDEX sheet(0,1,3)=3 worn(0,0,1,0,3,0)=31",
            "item(0,0,0,1)=CAST");
    }

    private static void drop() {
        Script.run("P32 BAD", "drop(-1)=BAD drop(4)=BAD drop(MIN)=BAD drop(MAX)=BAD");
        Script.run("P32 NULL: nothing (at first), nothing (then)", "drop(0)=NULL drop(3)=NULL sheet(3,1,7)=7 drop(3)=7 drop(3)=NULL");
        Script.run("P32 how many items it had: none is a row", "sheet(1,2,0)=0 drop(1)=0 drop(1)=NULL");
        Script.run("P32 the others stay", "sheet(0,0,1)=1 sheet(1,0,2)=2 sheet(2,0,3)=3 drop(1)=2 drop(0)=1 drop(2)=3");
        Script.run("P32 what it had is not in the next row",
            "monk(0,0)=0 sheet(0,0,2)=2 item(0,0,1,5)=1 drop(0)=2 sheet(0,0,2)=2 worn(0,0,0,0,2,0)=31");
    }

    private static void item() {
        Script.run("P33 BAD", "sheet(0,0,1)=1 item(-1,0,0,1)=BAD item(4,0,0,1)=BAD item(0,-1,0,1)=BAD item(0,4,0,1)=BAD",
            "item(MIN,0,0,1)=BAD item(0,MAX,0,1)=BAD");
        Script.run("P33 NULL, CAST", "item(0,0,0,1)=NULL sheet(0,2,1)=1 item(0,0,0,1)=CAST item(0,1,0,1)=CAST item(0,3,0,1)=CAST",
            "item(0,2,0,1)=1 item(1,2,0,1)=NULL");
        Script.run("P33 INDEX", "sheet(0,0,24)=24 item(0,0,-1,1)=INDEX item(0,0,0,1)=1 item(0,0,23,1)=1 item(0,0,24,1)=INDEX",
            "item(0,0,MIN,1)=INDEX item(0,0,MAX,1)=INDEX sheet(1,1,0)=0 item(1,1,0,1)=INDEX item(1,1,-1,1)=INDEX");
        lowestBits(0, 8);
        lowestBits(1, 16);
        lowestBits(2, 32);
        Script.run("P33 all bits of a long", "monk(0,99)=0 sheet(0,3,1)=1 item(0,3,0,99)=1 worn(0,0,3,0,1,0)=31",
            "item(0,3,0,4294967395)=1 worn(0,0,3,0,1,0)=0 item(0,3,0,LONGMIN)=1 worn(0,0,3,0,1,0)=0 item(0,3,0,LONGMAX)=1",
            "worn(0,0,3,0,1,0)=0");
    }

    /** Of a lane of so many bits: what is above them is lost, and the highest of them is the sign. */
    private static void lowestBits(int lane, int bits) {
        long wrap = 1L << bits;
        Script.run("P33 its lowest bits: " + bits, "monk(0,99)=0 sheet(0," + lane + ",1)=1",
            put(lane, 99) + "=31", put(lane, wrap + 99) + "=31", put(lane, 99 - wrap) + "=31",
            put(lane, Long.MIN_VALUE + 99) + "=31", put(lane, wrap / 2 + 99) + "=0", put(lane, 100) + "=0");
        Script.run("P33 its lowest bits: " + bits + ", 0", "monk(0,0)=0 sheet(0," + lane + ",1)=1",
            put(lane, wrap) + "=31", put(lane, -wrap) + "=31", put(lane, Long.MIN_VALUE) + "=31", put(lane, wrap / 2) + "=0",
            put(lane, -1) + "=0", put(lane, wrap - 1) + "=0");
        Script.run("P33 its lowest bits: " + bits + ", of which the highest is the sign", "sheet(0," + lane + ",1)=1",
            "item(0," + lane + ",0," + (wrap - 1) + ")=1 swept(0,0," + lane + ",0,1)=NOT",
            "item(0," + lane + ",0," + (wrap + 9) + ")=1 swept(9,0," + lane + ",0,1)=1");
    }

    private static String put(int lane, long v) {
        return "item(0," + lane + ",0," + v + ")=1 worn(0,0," + lane + ",0,1,0)";
    }

    private static void copy() {
        String rows = "sheet(0,2,4)=4 item(0,2,0,5)=1 item(0,2,1,7)=1 item(0,2,2,8)=1 item(0,2,3,9)=1 sheet(1,2,4)=4"
            + " sheet(2,1,4)=4";
        Script.run("P34 BAD", rows, "copy(-1,0,1,0,1)=BAD copy(4,0,1,0,1)=BAD copy(0,0,-1,0,1)=BAD copy(0,0,4,0,1)=BAD",
            "copy(MIN,0,1,0,1)=BAD copy(0,0,MAX,0,1)=BAD");
        Script.run("P34 NULL (either)", rows, "copy(3,0,0,0,1)=NULL copy(0,0,3,0,1)=NULL copy(3,0,3,0,0)=NULL");
        Script.run("P34 CAST: of unlike LANES", rows, "copy(0,0,2,0,1)=CAST copy(2,0,0,0,1)=CAST copy(0,0,2,0,0)=CAST");
        Script.run("P34 none, all", rows, "copy(0,0,1,0,0)=0 swept(0,1,2,0,1)=NOT copy(0,4,1,4,0)=0 copy(0,0,1,0,4)=4",
            "swept(5,1,2,0,1)=1 swept(7,1,2,1,1)=1 swept(8,1,2,2,1)=1 swept(4,1,2,2,1)=0 swept(9,1,2,3,1)=1 swept(3,1,2,3,1)=0");
        Script.run("P34 none of rows of no items", "sheet(0,0,0)=0 sheet(1,0,0)=0 copy(0,0,1,0,0)=0 copy(0,0,0,0,0)=0",
            "copy(0,0,1,0,1)=INDEX copy(0,1,1,0,0)=INDEX");
        Script.run("P34 or the same, as if all were taken ahead: to the right", rows, "copy(0,0,0,1,3)=3 swept(5,0,2,0,1)=1",
            "swept(5,0,2,1,1)=1 swept(7,0,2,2,1)=1 swept(8,0,2,3,1)=1 swept(4,0,2,3,1)=0");
        Script.run("P34 or the same, as if all were taken ahead: to the left", rows, "copy(0,1,0,0,3)=3 swept(7,0,2,0,1)=1",
            "swept(8,0,2,1,1)=1 swept(4,0,2,1,1)=0 swept(9,0,2,2,1)=1 swept(3,0,2,2,1)=0 swept(9,0,2,3,1)=1");
        Script.run("P34 or the same: to where they are", rows, "copy(0,0,0,0,4)=4 swept(5,0,2,0,1)=1 swept(9,0,2,3,1)=1");
        Script.run("P34 from i on to j on, none beside them", rows, "copy(0,3,1,1,1)=1 swept(9,1,2,1,1)=1 swept(0,1,2,0,1)=NOT",
            "swept(0,1,2,2,1)=NOT swept(9,0,2,3,1)=1 swept(5,0,2,0,1)=1");
    }

    private static void copyIndex() {
        String rows = "sheet(0,2,4)=4 item(0,2,0,5)=1 sheet(1,2,3)=3 item(1,2,0,7)=1";
        Script.run("P34 INDEX: from i on", rows, "copy(0,-1,1,0,1)=INDEX copy(0,4,1,0,1)=INDEX copy(0,5,1,0,0)=INDEX",
            "copy(0,3,1,0,2)=INDEX copy(0,MIN,1,0,1)=INDEX copy(0,MAX,1,0,1)=INDEX copy(0,-1,1,0,0)=INDEX",
            "swept(7,1,2,0,1)=1 swept(5,1,2,0,1)=0");
        Script.run("P34 INDEX: from j on", rows, "copy(0,0,1,-1,1)=INDEX copy(0,0,1,3,1)=INDEX copy(0,0,1,4,0)=INDEX",
            "copy(0,0,1,2,2)=INDEX copy(0,0,1,0,4)=INDEX copy(0,0,1,MIN,1)=INDEX copy(0,0,1,MAX,1)=INDEX",
            "copy(0,0,1,-1,0)=INDEX swept(7,1,2,0,1)=1 swept(5,1,2,0,1)=0");
        Script.run("P34 INDEX: n beyond, i and n together beyond all ints", rows, "copy(0,0,1,0,5)=INDEX copy(0,0,1,0,MAX)=INDEX",
            "copy(0,1,1,1,MAX)=INDEX copy(0,MAX,1,MAX,MAX)=INDEX copy(0,0,0,0,5)=INDEX");
        Script.run("P34 INDEX: n below 0", rows, "copy(0,0,1,0,-1)=INDEX copy(0,2,1,2,-1)=INDEX copy(0,0,1,0,MIN)=INDEX",
            "copy(0,MIN,1,0,MIN)=INDEX copy(3,0,1,0,-1)=NULL");
    }
}
