/** The bounds that promises 1 to 8 tell, a run of its own for each sentence. */
public final class BoundsMarksTest {
    public static void main(String[] args) {
        newObject();
        mark();
        monk();
        of();
        at();
        type();
        rock();
        marksOfARock();
        monksOfARock();
        numbersOfARock();
        blanksAndEnds();
        count();
        Script.named("mark", "+", "BAD", "FULL");
        Script.named("monk", "+", "BAD", "FULL");
        Script.named("of", "+", "BAD");
        Script.named("at", "+", "NONE", "BAD");
        Script.named("type", "+", "BAD", "FULL");
        Script.named("rock", "+", "FAULT");
        Script.named("count", "+", "BAD");
        Due.end();
    }

    private static void newObject() {
        Script.run("P1 a rock, nobody",
            "count(0)=0 count(1)=0 count(2)=0 count(3)=0 count(4)=0 count(5)=0 count(6)=0 count(7)=0 count(8)=0");
        Script.run("P1 nothing known, no image, an empty tape, THE DRAW 1, no sheets",
            "undo()=NONE restore()=NONE type(32)=1 seed(0)=1 drop(0)=NULL drop(1)=NULL drop(2)=NULL drop(3)=NULL");
    }

    private static void mark() {
        Script.run("P2 DARK 0 .. 60", "mark(-1,5,5)=BAD mark(0,5,5)=0 mark(60,5,5)=1 mark(61,5,5)=BAD",
            "mark(MIN,5,5)=BAD mark(MAX,5,5)=BAD of(0,0)=0 of(1,0)=60 count(0)=2");
        Script.run("P2 HARD 1 .. 9", "mark(5,0,5)=BAD mark(5,1,5)=0 mark(5,9,5)=1 mark(5,10,5)=BAD",
            "mark(5,MIN,5)=BAD mark(5,MAX,5)=BAD mark(5,-1,5)=BAD of(0,1)=1 of(1,1)=9 count(0)=2");
        Script.run("P2 UNDER 0 .. 60", "mark(5,5,-1)=BAD mark(5,5,0)=0 mark(5,5,60)=1 mark(5,5,61)=BAD",
            "mark(5,5,MIN)=BAD mark(5,5,MAX)=BAD of(0,2)=0 of(1,2)=60 count(0)=2");
        Script.run("P2 its number; FULL: 6",
            "mark(1,1,1)=0 mark(2,1,1)=1 mark(3,1,1)=2 mark(4,1,1)=3 mark(5,1,1)=4 mark(6,1,1)=5 mark(7,1,1)=FULL",
            "mark(7,1,1)=FULL count(0)=6 of(5,0)=6 of(0,0)=1 of(6,0)=BAD");
        Script.run("P2 FULL leaves what may be UNDONE",
            "'1.1,1.1,1.1,1.1,1.1,1.1'=6 days(3)=0 mark(7,1,1)=FULL count(8)=3 undo()=2");
        Script.run("P2 BAD leaves what may be UNDONE", "days(3)=0 mark(61,1,1)=BAD count(8)=3 undo()=2");
        Script.run("P2 WOOL 0 at first, though a TORN one had its number",
            "image()=1 '60.1/5;s99'=1 press(0,0,60)=7 restore()=1 mark(9,1,0)=0 of(0,3)=0 of(0,5)=0 of(0,2)=0");
        Script.run("P2 a new mark leaves nothing to be UNDONE, the day stays",
            "days(3)=0 mark(1,1,1)=0 count(8)=0 undo()=NONE count(2)=3");
    }

    private static void monk() {
        Script.run("P3 KIND 0 .. 4", "monk(-1,5)=BAD monk(0,5)=0 monk(4,5)=1 monk(5,5)=BAD monk(MIN,5)=BAD",
            "monk(MAX,5)=BAD at(0,0)=0 at(1,0)=4 count(1)=2");
        Script.run("P3 SIZE 0 .. 99", "monk(0,-1)=BAD monk(0,0)=0 monk(0,99)=1 monk(0,100)=BAD monk(0,MIN)=BAD",
            "monk(0,MAX)=BAD at(0,1)=0 at(1,1)=99 count(1)=2");
        Script.run("P3 the number; FULL: 5",
            "monk(0,1)=0 monk(1,2)=1 monk(2,3)=2 monk(3,4)=3 monk(4,5)=4 monk(0,6)=FULL monk(0,6)=FULL count(1)=5",
            "at(4,1)=5 at(0,1)=1 at(5,0)=BAD");
        Script.run("P3 FULL leaves what may be UNDONE",
            "'1.1;p1,p1,p1,p1,p1'=1 days(3)=0 monk(0,1)=FULL count(8)=3 undo()=2");
        Script.run("P3 BAD leaves what may be UNDONE", "days(3)=0 monk(5,1)=BAD monk(1,100)=BAD count(8)=3 undo()=2");
        Script.run("P3 SENT to none at first, though one who was had his number",
            "mark(9,1,0)=0 image()=1 '9.1;p9>0'=1 restore()=1 monk(0,5)=0 at(0,2)=NONE of(0,6)=0");
        Script.run("P3 a new monk leaves nothing to be UNDONE, the day stays",
            "days(3)=0 monk(1,1)=0 count(8)=0 undo()=NONE count(2)=3");
    }

    private static void of() {
        Script.run("P4 what 0 .. 6", "'5.3/7;p9>0'=1 of(0,-1)=BAD of(0,0)=5 of(0,1)=3 of(0,2)=7 of(0,3)=0 of(0,4)=0",
            "of(0,5)=0 of(0,6)=1 of(0,7)=BAD of(0,MIN)=BAD of(0,MAX)=BAD");
        Script.run("P4 a mark there is", "'5.3,6.2'=2 of(-1,0)=BAD of(1,0)=6 of(2,0)=BAD of(NONE,0)=BAD of(MIN,0)=BAD",
            "of(MAX,0)=BAD of(5,0)=BAD of(6,0)=BAD");
        Script.run("P4 the last of six", "'1.1,1.1,1.1,1.1,1.1,7.1'=6 of(5,0)=7 of(6,0)=BAD");
        Script.run("P4 who is SENT to it: nobody, all", "'5.3,6.2;p9>1,p9>1,p9>1,p9>1,p9>1'=2 of(0,6)=0 of(1,6)=31");
    }

    private static void at() {
        Script.run("P5 what 0 .. 2", "'5.3;a9>0'=1 at(0,-1)=BAD at(0,0)=4 at(0,1)=9 at(0,2)=0 at(0,3)=BAD",
            "at(0,MIN)=BAD at(0,MAX)=BAD");
        Script.run("P5 a monk there is", "'5.3;a9,t8'=1 at(-1,0)=BAD at(1,0)=3 at(2,0)=BAD at(NONE,0)=BAD at(MIN,0)=BAD",
            "at(MAX,0)=BAD at(4,0)=BAD at(5,0)=BAD");
        Script.run("P5 where he is SENT (NONE)", "'5.3;a9'=1 at(0,2)=NONE send(0,0)=NONE at(0,2)=0");
    }

    private static void type() {
        Script.run("P6 BAD: not 32 .. 126", "type(31)=BAD type(127)=BAD type(32)=1 type(126)=2 type(0)=BAD type(10)=BAD",
            "type(-1)=BAD type(MIN)=BAD type(MAX)=BAD type(288)=BAD type(65)=3");
        Script.run("P6 FULL: 90", letters(89), "type(32)=90 type(32)=FULL type(126)=FULL type(31)=BAD rock()=-110",
            "type(32)=1");
        Script.run("P6 what FULL refuses is not on THE TAPE",
            "type(57)=1 type(46)=2 type(49)=3", letters(90).substring(letters(3).length()), "type(44)=FULL rock()=1");
    }

    /** So many blanks typed on an empty tape. */
    private static String letters(int many) {
        StringBuilder calls = new StringBuilder();
        for (int i = 1; i <= many; i++) {
            calls.append("type(32)=").append(i).append(' ');
        }
        return calls.toString();
    }

    private static void rock() {
        Script.run("P7 THE TAPE is empty behind a ROCK", "'9.1'=1 rock()=-20 type(32)=1");
        Script.run("P7 THE TAPE is empty behind a FAULT", "'9.1x'=-23 rock()=-20 type(57)=1 rock()=-21 rock()=-20");
        Script.run("P7 a FAULT: all else stays",
            "'50.3/9;p90>0'=1 days(2)=0 seed(7)=1 image()=1 sheet(0,0,2)=2 '9.1;p9>1'=-27 count(0)=1 count(1)=1",
            "count(2)=2 count(3)=6 of(0,0)=42 of(0,1)=3 of(0,2)=9 of(0,3)=2 at(0,1)=84 at(0,2)=0 count(8)=2 undo()=1",
            "undo()=0 restore()=1 seed(1)=7 drop(0)=2");
        Script.run("P7 a FAULT at the very end of a long text: all else stays",
            "'50.3'=1 days(2)=0 '1.1,2.2,3.3,4.4,5.5,6.6;p1>5,n2>4,s3>3,t4>2,a5>1,'=-68 count(0)=1 of(0,0)=50 count(8)=2");
        Script.run("P7 in place of all; no WOOL, DAY 0, CRUMBS 0 (THE DRAW stays), nothing to be UNDONE",
            "'50.3/9,1.1;p90>0,p1'=2 days(2)=0 seed(7)=1 '50.3;p90'=1 count(0)=1 count(1)=1 count(2)=0 count(3)=0",
            "of(0,0)=50 of(0,2)=0 of(0,3)=0 at(0,1)=90 at(0,2)=NONE count(8)=0 undo()=NONE of(1,0)=BAD at(1,0)=BAD",
            "seed(0)=7");
        Script.run("P7 a TORN mark's place is not TORN in the next ROCK",
            "'60.1;s99'=1 press(0,0,60)=7 of(0,5)=1 '60.1'=1 of(0,5)=0 of(0,3)=0");
        Script.run("P7 no WOOL, DAY 0, CRUMBS 0, though more was foretold",
            "'60.1/9;s99>0'=1 days(1)=0 then(60,1)=1 dark(0,60)=4 '9.1;p9'=1 of(0,3)=0 of(0,2)=0 count(2)=0 count(3)=0 at(0,2)=NONE",
            "count(5)=0");
        Script.run("P7 ninety letters", "'" + " ".repeat(87) + "9.1'=1");
        Script.run("P7 ninety letters, the last a number's", "'" + " ".repeat(84) + "9.1;p7'=1 at(0,1)=7",
            "'" + " ".repeat(85) + "9.1/5'=1 of(0,2)=5 '" + " ".repeat(89) + "6'=-110");
        Script.run("P7 what was typed ahead of an earlier rock is not there",
            "'60.1/60;p99>0'=1 '6'=-21 '60.1/6'=1 of(0,2)=6 '60.1/60;p9'=1 at(0,1)=9 at(0,2)=NONE '60.1/60;p'=-29 '60.1/'=-25");
        Script.run("P7 the ninetieth can't stand there", "'9.1" + " ".repeat(86) + "x'=-109");
        Script.run("P7 the end of ninety", "'9.1," + " ".repeat(86) + "'=-110");
    }

    private static void marksOfARock() {
        Script.run("P7 1 to 6 marks: none", "''=-20 ';p1'=-20");
        Script.run("P7 1 to 6 marks: one, six", "'1.1'=1 '1.1,2.2,3.3,4.4,5.5,6.6'=6 of(5,0)=6 of(0,0)=1");
        Script.run("P7 1 to 6 marks: a seventh, the , can't stand there",
            "'1.1,1.1,1.1,1.1,1.1,1.1,1.1'=-43 '1.1,1.1,1.1,1.1,1.1,1.1,'=-43 '1.1,1.1,1.1,1.1,1.1,1.1 ,'=-44");
        Script.run("P7 , between: not ahead, not behind, not twice",
            "',1.1'=-20 '1.1,'=-24 '1.1,,1.1'=-24 '1.1 1.1'=-24 '1.1,;p1'=-24");
        Script.run("P7 DARK 0 .. 60", "'0.1'=1 '00.1'=1 '60.1'=1 of(0,0)=60 '61.1'=-20 '99.1'=-20 ' 61.1'=-21 '.1'=-20",
            "'-1.1'=-20 '1.1,61.1'=-24");
        Script.run("P7 . behind it", "'9'=-21 '9,1'=-21 '9/1'=-21 '9;'=-21 '60'=-22 '6x'=-21");
        Script.run("P7 HARD 1 .. 9", "'9.0'=-22 '9.1'=1 '9.9'=1 of(0,1)=9 '9.'=-22 '9.x'=-22 '9./'=-22 '9.10'=-23");
        Script.run("P7 UNDER 0 .. 60", "'9.1/0'=1 of(0,2)=0 '9.1/60'=1 of(0,2)=60 '9.1/61'=-24 '9.1/'=-24 '9.1/x'=-24",
            "'9.1/1/1'=-25 '9.1/99'=-24 '9.1/1.1'=-25");
        Script.run("P7 / is not needed", "'9.1'=1 of(0,2)=0 '9.1/5'=1 '9.1'=1 of(0,2)=0");
    }

    private static void monksOfARock() {
        Script.run("P7 1 to 5 monks: none behind ;", "'9.1;'=-24 '9.1; '=-25 '9.1;;'=-24 '9.1;,'=-24");
        Script.run("P7 ; is not needed", "'9.1'=1 count(1)=0 '9.1;p1'=1 count(1)=1 '9.1'=1 count(1)=0");
        Script.run("P7 1 to 5 monks: five", "'9.1;p1,n2,s3,t4,a5'=1 at(0,0)=0 at(1,0)=1 at(2,0)=2 at(3,0)=3 at(4,0)=4");
        Script.run("P7 1 to 5 monks: a sixth, the , can't stand there",
            "'9.1;p1,p1,p1,p1,p1,p1'=-38 '9.1;p1,p1,p1,p1,p1,'=-38");
        Script.run("P7 , between", "'9.1;p1,'=-27 '9.1;p1,,'=-27 '9.1;p1 n1'=-27 '9.1;p1;n1'=-26");
        Script.run("P7 p n s t a", "'9.1;q1'=-24 '9.1;P1'=-24 '9.1;1'=-24 '9.1;o1'=-24 '9.1;~'=-24");
        Script.run("P7 SIZE 0 .. 99", "'9.1;p0'=1 at(0,1)=0 '9.1;p99'=1 at(0,1)=99 '9.1;p'=-25 '9.1;px'=-25 '9.1;p-1'=-25");
        Script.run("P7 > and a digit of a mark there is: of one",
            "'9.1;p1>0'=1 at(0,2)=0 '9.1;p1>1'=-27 '9.1;p1>9'=-27 '9.1;p1>'=-27 '9.1;p1>/'=-27 '9.1;p1>00'=-28");
        Script.run("P7 > and a digit of a mark there is: of six",
            "'1.1,1.1,1.1,1.1,1.1,1.1;p1>5'=6 at(0,2)=5 '1.1,1.1,1.1,1.1,1.1,1.1;p1>6'=-47");
        Script.run("P7 > is not needed, and comes once", "'9.1;p1'=1 at(0,2)=NONE '9.1;p1>0>0'=-28 '9.1;p>0'=-25");
        Script.run("P7 no marks behind monks", "'9.1;p1,9.1'=-27 '9.1;p1>0;'=-28 '9.1;p1>0/1'=-28");
    }

    private static void numbersOfARock() {
        Script.run("P7 numbers have 1 or 2 digits", "'05.1/07;p09'=1 of(0,0)=5 of(0,2)=7 at(0,1)=9");
        Script.run("P7 a third one can't stand there", "'060.1'=-22 '100.1'=-22 '000.1'=-22 '9.1/000'=-26 '9.1;p000'=-27",
            "'9.1;p999'=-27 '600'=-22");
        Script.run("P7 the number's first digit, if it is not as told", "'61'=-20 '9.1/61'=-24 '1.1,1.1/99;q'=-28",
            "' 75.1'=-21 '9.1/  61'=-26");
        Script.run("P7 the first of two faults", "'61x'=-20 '9.0x'=-22 '9.1;p1>1x'=-27 'x61'=-20 '610'=-20");
    }

    private static void blanksAndEnds() {
        Script.run("P7 blanks count for nothing",
            "'  9 . 1 / 2 , 3 . 4 ; p 12 > 1 , n 3  '=2 of(0,0)=9 of(0,2)=2 of(1,1)=4 at(0,1)=12 at(0,2)=1 at(1,1)=3");
        Script.run("P7 but end a number", "'6 0.1'=-22 '9.1/6 0'=-26 '9.1;p9 9'=-27");
        Script.run("P7 the first letter (behind blanks) that can't stand there", "'  x'=-22 '9 x'=-22 '9. 0'=-23 '9.1  x'=-25");
        Script.run("P7 the end: how many there are", "'9'=-21 '9  '=-23 '   '=-23 '9.1/ '=-25 '9.1;p1> '=-28 '9.1, '=-25");
    }

    private static void count() {
        Script.run("P8 what 0 .. 8", "count(-1)=BAD count(0)=0 count(8)=0 count(9)=BAD count(MIN)=BAD count(MAX)=BAD");
        Script.run("P8 the most of all",
            "'60.1/60,60.1/60,60.1/60,60.1/60,60.1/60,60.1/60;p99,p99,p99,p99,p99'=6 count(0)=6 count(1)=5 count(6)=360",
            "count(7)=495 count(4)=0 count(5)=0");
        Script.run("P8 CRUMBS in all, of all monks", "'60.9,60.9;p99>0,p99>1'=2 days(11)=0 count(3)=198 count(7)=0",
            "days(1)=0 count(3)=198");
        Script.run("P8 TORN (a set): the first, the last",
            "'60.1,9.1,9.1,9.1,9.1,60.1;s99>0,s99>5'=6 days(6)=0 count(5)=0 days(1)=0 count(5)=33");
        Script.run("P8 what may be UNDONE: up to 8", "count(8)=0 days(7)=0 count(8)=7 days(1)=0 count(8)=8 days(1)=0 count(8)=8");
    }
}
