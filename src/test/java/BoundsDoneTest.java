/** The bounds that promises 9 to 15 tell, a run of its own for each sentence. */
public final class BoundsDoneTest {
    public static void main(String[] args) {
        days();
        send();
        press();
        ink();
        drift();
        undo();
        undoneAndTold();
        seed();
        Script.named("days", "+", "BAD", "FULL");
        Script.named("send", "+", "NONE", "BAD", "NOT");
        Script.named("press", "+", "BAD", "NOT");
        Script.named("ink", "+", "BAD", "NOT");
        Script.named("drift", "+", "BAD", "FULL");
        Script.named("undo", "+", "NONE");
        Script.named("seed", "+", "BAD");
        Due.end();
    }

    private static void days() {
        Script.run("P9 n days (1 .. 40)",
            "'50.1;p99>0'=1 days(0)=BAD days(-1)=BAD days(MIN)=BAD days(41)=BAD days(MAX)=BAD count(2)=0 days(1)=0",
            "count(2)=1 days(40)=1 count(2)=41 at(0,1)=86");
        Script.run("P9 each by itself may be UNDONE",
            "'50.1;p99>0'=1 days(3)=0 count(8)=3 undo()=2 count(2)=2 of(0,0)=42 at(0,1)=97 of(0,3)=2 count(3)=2 undo()=1",
            "undo()=0 of(0,0)=50 count(2)=0");
        Script.run("P9 what is GONE then (a set): behind the last of them",
            "'4.1,8.1,0.1;p9>0,p9>1'=3 days(1)=5 days(1)=7 undo()=1 count(4)=5");
        Script.run("P9 FULL: the DAY would be above 9999",
            "'9.1'=1 249*days(40)=0 count(2)=9960 days(40)=FULL count(2)=9960 count(8)=8 days(39)=0 count(2)=9999",
            "days(1)=FULL days(40)=FULL count(2)=9999 undo()=7 count(2)=9998 days(2)=FULL days(1)=0 count(2)=9999");
        Script.run("P9 a ROCK is at day 0 again", "249*days(40)=0 days(40)=FULL '9.1'=1 count(2)=0 days(40)=0 count(2)=40");
        Script.run("P9 with nobody", "days(40)=0 count(2)=40 count(8)=8 undo()=7");
    }

    private static void send() {
        Script.run("P10 SENT to a mark, to none: where he was (NONE)",
            "'9.1,9.1;p9'=2 send(0,1)=NONE at(0,2)=1 send(0,0)=1 at(0,2)=0 send(0,NONE)=0 at(0,2)=NONE");
        Script.run("P10 BAD: no such monk", "'9.1;p9'=1 send(-1,0)=BAD send(1,0)=BAD send(MIN,0)=BAD send(MAX,0)=BAD",
            "send(NONE,0)=BAD send(1,NONE)=BAD count(8)=0");
        Script.run("P10 BAD: no such mark, and none but NONE is none",
            "'9.1;p9>0'=1 send(0,-1)=BAD send(0,1)=BAD send(0,-2)=BAD send(0,-3)=BAD send(0,-5)=BAD send(0,MIN)=BAD",
            "send(0,MAX)=BAD at(0,2)=0 count(8)=0");
        Script.run("P10 NOT: he is", "'9.1;p9>0'=1 send(0,0)=NOT count(8)=0 send(0,NONE)=0 send(0,NONE)=NOT count(8)=1");
        Script.run("P10 to what is GONE, TORN, by a monk of SIZE 0",
            "'0.1,60.1;s99,p0'=2 press(0,1,60)=7 send(0,0)=NONE send(0,1)=0 send(1,1)=NONE of(1,6)=3");
        Script.run("P10 no mark there is, to none alone", "monk(0,9)=0 send(0,0)=BAD send(0,NONE)=NOT");
    }

    private static void press() {
        Script.run("P11 n times (1 .. 60)", "'60.1/60;p99'=1 press(0,0,0)=BAD press(0,0,-1)=BAD press(0,0,61)=BAD",
            "press(0,0,MIN)=BAD press(0,0,MAX)=BAD of(0,0)=60 press(0,0,1)=1 of(0,0)=56 press(0,0,60)=19 of(0,5)=1");
        Script.run("P11 BAD: no such monk, no such mark",
            "'9.1;p9'=1 press(-1,0,1)=BAD press(1,0,1)=BAD press(0,-1,1)=BAD press(0,1,1)=BAD press(0,NONE,1)=BAD",
            "press(MIN,0,1)=BAD press(0,MAX,1)=BAD count(8)=0");
        Script.run("P11 how often he could: just n, one less than n", "'12.1;p9'=1 press(0,0,2)=2 of(0,0)=4 press(0,0,2)=1");
        Script.run("P11 how often he could: through what is UNDER", "'4.1/4;p9'=1 press(0,0,60)=2 count(4)=1");
        Script.run("P11 NOT: he could not once", "'0.1,60.1,9.1;s99,p0'=3 press(0,1,60)=7 press(0,0,1)=NOT press(0,1,1)=NOT",
            "press(1,2,1)=NOT count(8)=1");
        Script.run("P11 all rubs of one press are UNDONE at once",
            "'12.3;p9'=1 press(0,0,60)=3 count(8)=1 count(3)=9 undo()=0 of(0,0)=12 of(0,3)=0 at(0,1)=9 count(3)=0");
    }

    private static void ink() {
        Script.run("P12 by n (1 .. 60)", "'0.1,0.1'=2 ink(0,0)=BAD ink(0,-1)=BAD ink(0,61)=BAD ink(0,MIN)=BAD ink(0,MAX)=BAD",
            "of(0,0)=0 ink(0,1)=1 ink(1,60)=60 count(8)=2");
        Script.run("P12 how DARK it is then: 60 at most", "'59.1/60'=1 ink(0,1)=60 ink(0,1)=60 of(0,0)=60 of(0,2)=60 count(8)=2",
            "undo()=1 of(0,0)=60 undo()=0 of(0,0)=59");
        Script.run("P12 BAD: no such mark", "'9.1'=1 ink(-1,1)=BAD ink(1,1)=BAD ink(NONE,1)=BAD ink(MIN,1)=BAD ink(MAX,1)=BAD");
        Script.run("P12 NOT: it is TORN", "'60.1,56.1,60.1;s99,s99,p99'=3 press(0,0,60)=7 ink(0,1)=NOT of(0,0)=4 count(8)=1");
        Script.run("P12 NOT: it is TORN and GONE", "'56.1;s99'=1 press(0,0,60)=7 count(4)=1 count(5)=1 ink(0,1)=NOT count(4)=1");
        Script.run("P12 WOOL 19 is not TORN", "'60.1/60;p99'=1 press(0,0,19)=19 ink(0,1)=45");
        Script.run("P12 what is GONE is not, then", "'0.1'=1 count(4)=1 ink(0,1)=1 count(4)=0 gone(0)=NONE");
    }

    private static void drift() {
        Script.run("P13 n days (1 .. 40)", "drift(0)=BAD drift(-1)=BAD drift(MIN)=BAD drift(41)=BAD drift(MAX)=BAD count(2)=0",
            "seed(1)=1 drift(1)=0 count(2)=1 drift(40)=0 count(2)=41");
        Script.run("P13 it is by 65536, by 128, left over: of five, of six",
            "'9.1,9.1,9.1,9.1,9.1,9.1;p9,p9,p9,p9,p9'=6 drift(1)=0 at(3,2)=5 of(5,0)=5 at(0,2)=NONE seed(0)=1103527590",
            "drift(1)=0 at(0,2)=0 seed(0)=12345");
        Script.run("P13 it is by 65536, by 128, left over: of two, of two",
            "'9.1,9.1;p9,p9'=2 drift(1)=0 at(0,2)=1 at(1,2)=NONE");
        Script.run("P13 left over of one is 0", "'60.1;p99'=1 drift(1)=0 at(0,2)=0 drift(7)=0 at(0,2)=0 of(0,0)=28");
        Script.run("P13 the lowest 31 bits", "seed(MAX)=1 drift(1)=0 seed(0)=1043980748");
        Script.run("P13 from the least seed", "seed(0)=1 drift(1)=0 seed(1)=12345");
        Script.run("P13 it is by 65536, by 128, cut: THE DRAW becomes 327679, 327680, the most, 0",
            "'60.1,60.1,60.1,60.1,60.1,60.1;p9,p9,p9,p9,p9'=6 seed(649509662)=1 drift(1)=0 at(4,2)=3 seed(359704195)=327679 drift(1)=0",
            "at(0,2)=4 seed(230538014)=327680 drift(1)=0 at(2,2)=3 seed(2088216195)=MAX drift(1)=0 at(0,2)=0 at(1,2)=NONE",
            "seed(1)=0");
        Script.run("P13 nobody without marks", "monk(0,9)=0 drift(1)=0 at(0,2)=NONE seed(0)=1103527590");
        Script.run("P13 nobody without monks", "mark(9,1,0)=0 drift(1)=0 of(0,0)=9 seed(0)=1103527590");
        Script.run("P13 each with who is SENT one that may be UNDONE",
            "'9.1,9.1;p9,p9'=2 drift(2)=0 count(8)=2 undo()=1 at(0,2)=1 at(1,2)=NONE count(2)=1 undo()=0 at(0,2)=NONE",
            "count(2)=0 of(1,0)=9 seed(1)=1");
        Script.run("P13 FULL likewise, and THE DRAW stays",
            "'9.1;p9'=1 249*days(40)=0 drift(40)=FULL seed(1)=1 at(0,2)=NONE count(2)=9960 count(8)=8 drift(39)=1",
            "count(2)=9999 drift(1)=FULL days(1)=FULL undo()=7 drift(2)=FULL drift(1)=1 count(2)=9999");
        Script.run("P13 to where he is already", "'60.1;p99>0'=1 drift(1)=0 of(0,0)=56 at(0,2)=0 count(8)=1");
    }

    private static void undo() {
        Script.run("P14 NONE: none is known", "undo()=NONE '9.1;p9'=1 undo()=NONE seed(5)=1 undo()=NONE seed(5)=5");
        Script.run("P14 how many more may be: a DAY, SENT, PRESSED, INKED",
            "'50.3,40.2;p90,s9'=2 days(1)=0 send(0,1)=NONE press(1,0,1)=1 ink(1,5)=45 undo()=3 of(1,0)=40 undo()=2",
            "of(0,0)=50 at(1,1)=9 of(0,3)=0 count(3)=0 undo()=1 at(0,2)=NONE undo()=0 count(2)=0 undo()=NONE");
        Script.run("P14 8 are known", "'60.1;p99'=1 8*press(0,0,1)=1 undo()=7 undo()=6 undo()=5 undo()=4 undo()=3 undo()=2",
            "undo()=1 undo()=0 of(0,0)=60 undo()=NONE");
        Script.run("P14 older ones lost", "'60.1;p99'=1 9*press(0,0,1)=1 undo()=7 undo()=6 undo()=5 undo()=4 undo()=3 undo()=2",
            "undo()=1 undo()=0 of(0,0)=56 undo()=NONE of(0,0)=56");
        Script.run("P14 of 40 days 8", "'60.1;p99>0'=1 days(15)=1 count(8)=8 undo()=7 undo()=6 undo()=5 undo()=4 undo()=3",
            "undo()=2 undo()=1 undo()=0 of(0,0)=32 count(2)=7 undo()=NONE");
        Script.run("P14 the ring goes on behind undone ones",
            "'60.1;p99'=1 12*press(0,0,1)=1 undo()=7 undo()=6 undo()=5 of(0,0)=24 ink(0,1)=25 ink(0,1)=26 ink(0,1)=27",
            "ink(0,1)=28 ink(0,1)=29 count(8)=8 undo()=7 of(0,0)=28 undo()=6 undo()=5 undo()=4 undo()=3 of(0,0)=24 undo()=2 of(0,0)=28 undo()=1",
            "undo()=0 of(0,0)=36 undo()=NONE");
    }

    private static void undoneAndTold() {
        Script.run("P14 THE DRAW is as ahead of it, whatever was told since",
            "seed(5)=1 days(1)=0 seed(6)=5 days(1)=0 seed(7)=6 undo()=1 seed(8)=6 undo()=0 seed(9)=5 undo()=NONE seed(0)=9");
        Script.run("P14 what comes back may stand above what was told since",
            "'50.1;p99'=1 send(0,0)=NONE press(0,0,3)=3 undo()=1 undo()=0 of(0,0)=50 send(0,0)=NONE count(8)=1");
        Script.run("P14 a TORN mark is not, then", "'60.1;s99'=1 press(0,0,60)=7 ink(0,1)=NOT undo()=0 of(0,5)=0 ink(0,1)=60");
        Script.run("P14 a MARK leaves nothing to be UNDONE", "days(2)=0 mark(1,1,1)=0 undo()=NONE count(2)=2 days(1)=0 undo()=0");
        Script.run("P14 a MONK leaves nothing to be UNDONE", "days(2)=0 monk(1,1)=0 undo()=NONE count(2)=2 days(1)=0 undo()=0");
        Script.run("P14 a ROCK leaves nothing to be UNDONE", "days(2)=0 '9.1'=1 undo()=NONE days(1)=0 undo()=0 undo()=NONE");
        Script.run("P14 THE TAPE, SHEETS, an image are not undone",
            "'9.1;p9'=1 days(1)=0 type(57)=1 sheet(0,0,1)=1 image()=1 undo()=0 type(46)=2 drop(0)=1 restore()=1 count(2)=1");
        Script.run("P14 what is refused is nothing to be UNDONE",
            "'9.1;p9>0'=1 days(41)=BAD send(0,0)=NOT press(0,0,0)=BAD ink(0,0)=BAD drift(0)=BAD undo()=NONE count(8)=0");
    }

    private static void seed() {
        Script.run("P15 BAD: below 0", "seed(-1)=BAD seed(MIN)=BAD seed(NONE)=BAD seed(0)=1 seed(MAX)=0 seed(1)=MAX");
        Script.run("P15 nothing to be UNDONE", "seed(9)=1 count(8)=0 undo()=NONE seed(1)=9");
    }
}
