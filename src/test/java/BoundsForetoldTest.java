/** The bounds that promises 16 to 27 tell, a run of its own for each sentence. */
public final class BoundsForetoldTest {
    public static void main(String[] args) {
        behindDays();
        gone();
        needs();
        sends();
        sendsOfLikeOnes();
        round();
        roundOfLikeOnes();
        pair();
        pairOfLikeOnes();
        small();
        slip();
        image();
        Script.named("dark", "+", "BAD");
        Script.named("size", "+", "BAD");
        Script.named("then", "+", "BAD");
        Script.named("gone", "+", "NONE", "BAD");
        Script.named("needs", "+", "NONE", "BAD");
        Script.named("sends", "+", "NONE", "BAD");
        Script.named("round", "+", "NONE", "BAD");
        Script.named("pair", "+", "NONE", "BAD");
        Script.named("small", "+", "NONE", "BAD");
        Script.named("slip", "+", "BAD");
        Script.named("image", "+");
        Script.named("restore", "+", "NONE");
        Due.end();
    }

    private static void behindDays() {
        Script.run("P16 behind n DAYS (0 .. 60)", "'60.1/60;p99>0'=1 dark(0,-1)=BAD dark(0,0)=60 dark(0,1)=56 dark(0,15)=60",
            "dark(0,19)=44 dark(0,20)=40 dark(0,60)=40 dark(0,61)=BAD dark(0,MIN)=BAD dark(0,MAX)=BAD of(0,0)=60");
        Script.run("P16 BAD: no such mark", "'9.1'=1 dark(-1,0)=BAD dark(1,0)=BAD dark(NONE,0)=BAD dark(MIN,0)=BAD",
            "dark(MAX,0)=BAD dark(0,60)=9");
        Script.run("P17 behind n DAYS (0 .. 60)", "'60.9;p20>0'=1 size(0,-1)=BAD size(0,0)=20 size(0,2)=2 size(0,3)=0",
            "size(0,60)=0 size(0,61)=BAD size(0,MIN)=BAD size(0,MAX)=BAD at(0,1)=20");
        Script.run("P17 BAD: no such monk", "'9.1;p9'=1 size(-1,0)=BAD size(1,0)=BAD size(NONE,0)=BAD size(MIN,0)=BAD",
            "size(MAX,0)=BAD size(0,60)=9");
        Script.run("P18 behind n DAYS (0 .. 60)", "'60.1/20,0.1;p99>0'=2 then(-1,0)=BAD then(0,0)=2 then(0,1)=0 then(0,2)=0",
            "then(19,0)=2 then(19,1)=0 then(20,0)=3 then(20,1)=1 then(20,2)=20 then(60,0)=3 then(60,2)=20 then(61,0)=BAD",
            "then(MIN,1)=BAD then(MAX,2)=BAD");
        Script.run("P18 what 0 .. 2", "then(0,-1)=BAD then(0,0)=0 then(0,2)=0 then(0,3)=BAD then(60,MIN)=BAD then(60,MAX)=BAD");
        Script.run("P18 with nobody", "then(60,0)=0 then(60,1)=0 then(60,2)=0");
        Script.run("P18 CRUMBS in all, those of now, too", "'60.5;p99>0'=1 days(2)=0 then(0,2)=10 then(1,2)=15 count(3)=10");
        Script.run("P16 to P19 foretold beyond day 9999",
            "'60.1/20,4.1;p99'=2 249*days(40)=0 days(38)=0 send(0,0)=NONE dark(0,60)=0 size(0,60)=79 then(60,0)=1 gone(0)=20",
            "count(2)=9998");
    }

    private static void gone() {
        Script.run("P19 the first of 0 to 60 DAYS: 0", "'0.1;p9>0'=1 gone(0)=0");
        Script.run("P19 the first of 0 to 60 DAYS: as long as can be", "'60.1/20,60.1/21;p99>0,p99>1'=2 gone(0)=20 gone(1)=NONE");
        Script.run("P19 GONE and TORN at once is GONE", "'56.1,56.1/1;s99>0,s99>1'=2 gone(0)=7 gone(1)=NONE days(7)=1 gone(0)=0");
        Script.run("P19 none: nobody, a monk too small, a monk sent elsewhere",
            "'9.1,8.9,9.1;p9,p9>1'=3 gone(0)=NONE gone(1)=NONE gone(2)=NONE");
        Script.run("P19 BAD", "'9.1'=1 gone(-1)=BAD gone(1)=BAD gone(NONE)=BAD gone(MIN)=BAD gone(MAX)=BAD gone(0)=NONE");
    }

    private static void needs() {
        Script.run("P20 0: it is GONE, by whomever", "'0.1;p0,p9'=1 needs(0,0)=0 needs(1,0)=0");
        Script.run("P20 0: it is GONE, TORN, too", "'56.1;s99'=1 press(0,0,60)=7 needs(0,0)=0");
        Script.run("P20 the fewest: as many as can be", "'60.1/20,60.1/21;p99'=2 needs(0,0)=20 needs(0,1)=NONE");
        Script.run("P20 none: TORN, not GONE", "'60.1;s99,p99'=1 press(0,0,60)=7 needs(1,0)=NONE");
        Script.run("P20 none: of SIZE 0, just too small", "'9.3;p0,p6,p7'=1 needs(0,0)=NONE needs(1,0)=NONE needs(2,0)=3");
        Script.run("P20 alone, wherever he is SENT", "'8.1,8.1;p9>1,s9>0'=2 needs(0,0)=2 needs(1,0)=1 needs(1,1)=1");
        Script.run("P20 BAD", "'9.1;p9'=1 needs(-1,0)=BAD needs(1,0)=BAD needs(0,-1)=BAD needs(0,1)=BAD needs(MIN,0)=BAD",
            "needs(0,MAX)=BAD needs(NONE,NONE)=BAD needs(0,0)=3");
    }

    private static void sends() {
        Script.run("P21 n DAYS (0 .. 30)", "'60.1/20;p99'=1 sends(-1,-1)=BAD sends(0,-1)=0 sends(0,0)=0 sends(19,-1)=0",
            "sends(20,-1)=1 sends(30,-1)=1 sends(30,0)=0 sends(31,-1)=BAD sends(MIN,-1)=BAD sends(MAX,-1)=BAD");
        Script.run("P21 BAD: k below -1", "'4.1;p9'=1 sends(1,-2)=BAD sends(1,NONE)=BAD sends(1,MIN)=BAD sends(1,-1)=1");
        Script.run("P21 NONE: not so many", "'4.1;p9,p9'=1 sends(1,1)=0 sends(1,2)=NONE sends(1,5)=NONE sends(1,MAX)=NONE");
        Script.run("P21 NONE: no MARKS", "sends(1,-1)=0 sends(1,0)=NONE monk(0,9)=0 sends(1,-1)=0 sends(1,0)=NONE sends(1,1)=NONE");
        Script.run("P21, P23 a number not as told is BAD, though there is none either", "sends(31,0)=BAD sends(-1,9)=BAD",
            "mark(60,9,60)=0 pair(0,3)=BAD pair(0,-1)=BAD pair(0,0)=NONE monk(0,1)=0 sends(31,5)=BAD sends(30,5)=NONE");
        Script.run("P21 no MONKS: as many as are GONE", "'0.1,4.1,0.1'=3 sends(30,-1)=2 sends(30,0)=NONE");
        Script.run("P21 in no days: as many as are GONE", "'4.1,0.1;p9>1'=2 sends(0,-1)=1 sends(0,0)=0");
        Script.run("P21 those that are GONE already, too", "'0.1,4.1;p9'=2 sends(1,-1)=2 sends(1,0)=1");
        Script.run("P21 not to none, if there are MARKS", "'60.9,60.9;p0,p9'=2 sends(30,-1)=0 sends(30,0)=0 sends(30,1)=0");
        Script.run("P21 several to one, too", "'60.1,8.1;p9,p9'=2 sends(1,-1)=1 sends(1,0)=1 sends(1,1)=1");
        Script.run("P21 what is TORN is not GONE", "'60.1,60.1;s99'=2 press(0,0,60)=7 sends(30,-1)=0 sends(30,0)=0");
        Script.run("P21 nobody is sent by it", "'8.1,4.1;p9>0'=2 sends(1,0)=1 at(0,2)=0 count(8)=0");
    }

    private static void sendsOfLikeOnes() {
        Script.run("P21 of like ones the first: MARK of MONK 0, then 1, rising",
            "'4.1,4.1,4.1,4.1,4.1,4.1;p9,p9,p9,p9,p9'=6 sends(1,-1)=5 sends(1,0)=0 sends(1,1)=1 sends(1,2)=2 sends(1,3)=3",
            "sends(1,4)=4 sends(1,5)=NONE");
        Script.run("P21 of like ones the first: who is not needed goes to 0",
            "'60.9,4.1;p9,p9'=2 sends(1,-1)=1 sends(1,0)=0 sends(1,1)=1");
        Script.run("P21 of like ones the first: the last is no better", "'4.1,4.1;p9'=2 sends(30,-1)=1 sends(30,0)=0");
        Script.run("P21 each call by itself: fewer than ahead, none at all",
            "'4.1,4.1,8.1;p9,p9'=3 sends(1,-1)=2 sends(2,1)=1 '60.9,4.1;p9'=2 sends(1,-1)=1 sends(1,0)=1 '60.9,60.9;p9,p9'=2",
            "sends(1,-1)=0 sends(1,0)=0 sends(1,1)=0");
        Script.run("P21 of five, where one MARK is GONE whoever comes", "'0.1,4.1;p9,p9,p9,p9,p9'=2 sends(1,-1)=2 sends(1,0)=0",
            "sends(1,3)=0 sends(1,4)=1");
        Script.run("P21 the last choice of all", "'60.9,60.9,20.1;p9,p9,p9,p9,p9'=3 sends(1,-1)=1 sends(1,0)=2 sends(1,1)=2",
            "sends(1,2)=2 sends(1,3)=2 sends(1,4)=2");
    }

    private static void round() {
        Script.run("P22 the k-th MARK (0 on): all six",
            "'4.1,4.1,4.1,4.1,4.1,4.1;p99'=6 round(0,-1)=6 round(0,0)=0 round(0,1)=1 round(0,2)=2 round(0,3)=3 round(0,4)=4",
            "round(0,5)=5 round(0,6)=NONE round(0,7)=NONE round(0,MAX)=NONE");
        Script.run("P22 BAD: k below -1, too", "'4.1;p9'=1 round(0,-2)=BAD round(0,NONE)=BAD round(0,MIN)=BAD round(1,0)=BAD",
            "round(-1,0)=BAD round(MIN,0)=BAD round(MAX,-1)=BAD round(1,-2)=BAD round(1,9)=BAD round(0,0)=0");
        Script.run("P22 no MARKS", "monk(0,9)=0 round(0,-1)=0 round(0,0)=NONE");
        Script.run("P22 not GONE: all are", "'0.1,0.1;p9'=2 round(0,-1)=2 round(0,0)=NONE");
        Script.run("P22 not TORN: it is", "'60.1;s99'=1 press(0,0,60)=7 round(0,-1)=0 round(0,0)=NONE");
        Script.run("P22 TORN and GONE: of all MARKS, but not in the order",
            "'56.1,4.1;s99'=2 press(0,0,60)=7 round(0,-1)=2 round(0,0)=1 round(0,1)=NONE");
        Script.run("P22 of SIZE 0: none more is GONE", "'4.1,0.1,4.1;p0'=3 round(0,-1)=1 round(0,0)=0 round(0,1)=2 round(0,2)=NONE");
        Script.run("P22 each as long as he can: until it is TORN", "'60.1/60,4.1;p99'=2 round(0,-1)=1 round(0,0)=0 round(0,1)=1",
            "round(0,2)=NONE");
        Script.run("P22 nothing is rubbed by it", "'4.1;p9>0'=1 round(0,-1)=1 of(0,0)=4 at(0,1)=9 count(3)=0 count(8)=0");
    }

    private static void roundOfLikeOnes() {
        Script.run("P22 each as long as he can: the hard one takes all",
            "'60.9,4.1;p9'=2 round(0,-1)=1 round(0,0)=1 round(0,1)=0");
        Script.run("P22 of like ones the first (by numbers, rising)",
            "'60.9,4.1,4.1;p9'=3 round(0,-1)=2 round(0,0)=1 round(0,1)=2 round(0,2)=0");
        Script.run("P22 each order from now: what one order rubbed is not rubbed for the next",
            "'8.9,4.1;p9'=2 round(0,-1)=1 round(0,0)=1 round(0,1)=0 round(0,-1)=1");
        Script.run("P22 each call by itself: fewer than ahead, none at all",
            "'60.9,4.1;p9'=2 round(0,-1)=1 round(0,0)=1 '60.9,60.9;p9'=2 round(0,-1)=0 round(0,0)=0 round(0,1)=1");
        Script.run("P22 his last rub counts as any", "'4.9,4.9;p10'=2 round(0,-1)=2 round(0,0)=0 round(0,1)=1");
        Script.run("P22 of like ones the first: all are GONE in any order",
            "'4.5,12.5;n31'=2 round(0,-1)=2 round(0,0)=0 round(0,1)=1");
        Script.run("P22 by SIZE as it is by then: corners for the one that wants them",
            "'8.9,16.6;n36'=2 round(0,-1)=2 round(0,0)=1 round(0,1)=0");
    }

    private static void pair() {
        Script.run("P23 what 0 .. 2", "'0.1;p9,p9'=1 pair(0,-1)=BAD pair(0,0)=0 pair(0,1)=1 pair(0,2)=0 pair(0,3)=BAD",
            "pair(0,MIN)=BAD pair(0,MAX)=BAD");
        Script.run("P23 BAD: no such mark", "'4.1;p9,p9'=1 pair(-1,0)=BAD pair(1,0)=BAD pair(NONE,0)=BAD pair(MAX,0)=BAD pair(0,0)=1");
        Script.run("P23 none: fewer than two MONKS, though it is GONE",
            "'0.1'=1 pair(0,0)=NONE monk(0,9)=0 pair(0,0)=NONE pair(0,1)=NONE pair(0,2)=NONE monk(0,0)=1 pair(0,0)=0");
        Script.run("P23 none: both of SIZE 0", "'4.1;p0,p0'=1 pair(0,0)=NONE pair(0,1)=NONE pair(0,2)=NONE");
        Script.run("P23 none: TORN, not GONE", "'60.1;s99,p99'=1 press(0,0,60)=7 pair(0,0)=NONE");
        Script.run("P23 TORN and GONE: no CRUMBS", "'56.1;s99,p99'=1 press(0,0,60)=7 pair(0,0)=0 pair(0,1)=1 pair(0,2)=0");
        Script.run("P23 none: torn by any number of rubs", "'60.1/21;p99,p99'=1 pair(0,0)=NONE");
        Script.run("P23 just: twenty rubs", "'60.1/20;p99,p99'=1 pair(0,0)=20 pair(0,1)=1 pair(0,2)=0");
        Script.run("P23 as many as he can do", "'16.1;p0,p0,p0,s1,s1'=1 pair(0,0)=2 pair(0,1)=34 pair(0,2)=1");
        Script.run("P23 the first alone, the other one not once", "'4.1;p1,p0'=1 pair(0,0)=1 pair(0,1)=10 pair(0,2)=0");
        Script.run("P23 CRUMBS of these rubs alone", "'60.1,4.1;p99,p9'=2 press(0,0,9)=9 pair(1,0)=1");
    }

    private static void pairOfLikeOnes() {
        Script.run("P23 of like ones the fewest RUBS of the first one", "'8.5;p9,a1'=1 pair(0,0)=1 pair(0,1)=1 pair(0,2)=0");
        Script.run("P23 the fewest RUBS ahead of the first pair", "'8.5;a1,p9'=1 pair(0,0)=1 pair(0,1)=10 pair(0,2)=0");
        Script.run("P23 then the first pair", "'8.5;p9,p9,p9,p9,a1'=1 pair(0,0)=1 pair(0,1)=4 pair(0,2)=0");
        Script.run("P23 i, j unlike, in any order", "'8.5;p0,a1'=1 pair(0,1)=1 'x'=-20 '8.5;a1,p0'=1 pair(0,1)=10");
        Script.run("P23 each call by itself", "'4.1,60.1/21;p9,p9'=2 pair(0,0)=1 pair(1,0)=NONE pair(1,1)=NONE pair(0,0)=1");
        Script.run("P23 his last crumb is little: either is first once", "'8.9;p99,p1'=1 pair(0,0)=10 pair(0,1)=1 pair(0,2)=1");
    }

    private static void small() {
        Script.run("P24 0: it is GONE, TORN, too", "'0.1,56.1;p9,s99'=2 small(0,0)=0 press(1,1,60)=7 small(0,1)=0");
        Script.run("P24 1: one rub, however hard", "'4.9;p0'=1 small(0,0)=1");
        Script.run("P24 99, and no more", "'60.7,60.8;p0'=2 small(0,0)=99 small(0,1)=NONE");
        Script.run("P24 none: TORN, not GONE; torn ahead", "'60.1,60.1/21;s99,p5'=2 press(0,0,60)=7 small(1,0)=NONE small(1,1)=NONE");
        Script.run("P24 whatever his SIZE is", "'8.5;p0,p99'=1 small(0,0)=6 small(1,0)=6 at(0,1)=0 at(1,1)=99");
        Script.run("P24 corners: 6 by SIZE 30", "'6.9,6.1;n0,t0'=2 small(0,0)=10 small(1,0)=6 small(0,1)=2");
        Script.run("P24 BAD", "'4.1;p9'=1 small(-1,0)=BAD small(1,0)=BAD small(0,-1)=BAD small(0,1)=BAD small(NONE,NONE)=BAD",
            "small(MIN,0)=BAD small(0,MAX)=BAD small(0,0)=1");
    }

    private static void slip() {
        Script.run("P25 at least m (0 .. 6)", "'0.1,0.1,0.1,0.1,0.1,0.1'=6 slip(-1,5,0)=BAD slip(0,5,0)=1 slip(6,5,0)=1 slip(6,5,1)=1",
            "slip(7,5,0)=BAD slip(MIN,5,0)=BAD slip(MAX,5,0)=BAD");
        Script.run("P25 c of 10 (0 .. 10)", "'4.1;p9>0'=1 slip(1,-1,0)=BAD slip(1,0,0)=1 slip(1,0,1)=1 slip(1,1,0)=9 slip(1,1,1)=10",
            "slip(1,9,0)=1 slip(1,9,1)=10 slip(1,10,0)=0 slip(1,10,1)=1 slip(1,11,0)=BAD slip(1,MIN,0)=BAD slip(1,MAX,0)=BAD");
        Script.run("P25 what 0 .. 1", "slip(0,0,-1)=BAD slip(0,0,0)=1 slip(0,0,1)=1 slip(0,0,2)=BAD slip(0,0,MIN)=BAD slip(0,0,MAX)=BAD");
        Script.run("P25 at least 0 is sure, more than there are is never",
            "'4.1;p9>0'=1 slip(0,5,0)=1 slip(0,5,1)=1 slip(2,0,0)=0 slip(2,0,1)=1 slip(6,5,0)=0 slip(6,5,1)=1");
        Script.run("P25 nobody is SENT", "'4.1,0.1;p9'=2 slip(1,5,0)=1 slip(1,5,1)=1 slip(2,5,0)=0 slip(2,5,1)=1");
        Script.run("P25 all five, apart, in lowest terms",
            "'4.1,4.1,4.1,4.1,4.1,0.1;p9>0,p9>1,p9>2,p9>3,p9>4'=6 slip(6,1,0)=59049 slip(6,1,1)=100000 slip(6,9,0)=1",
            "slip(6,9,1)=100000 slip(6,5,0)=1 slip(6,5,1)=32 slip(6,0,0)=1 slip(6,0,1)=1 slip(6,10,0)=0 slip(6,10,1)=1",
            "slip(1,10,0)=1 slip(1,10,1)=1 slip(2,5,0)=31 slip(2,5,1)=32");
        Script.run("P25 a monk SENT who can't rub", "'4.1;p0>0,p9>0'=1 slip(1,5,0)=1 slip(1,5,1)=2");
        Script.run("P25 this DAY alone; nothing is changed", "'8.1;p9>0'=1 slip(1,0,0)=0 slip(1,0,1)=1 of(0,0)=8 count(2)=0");
    }

    private static void image() {
        Script.run("P27 NONE: there is none", "restore()=NONE '9.1'=1 restore()=NONE count(0)=1");
        Script.run("P26 of nobody", "image()=1 '9.1;p9'=1 days(2)=0 restore()=1 count(0)=0 count(1)=0 count(2)=0 count(8)=0");
        Script.run("P26 a later one is in its place", "image()=1 days(1)=0 image()=1 days(1)=0 restore()=1 count(2)=1");
        Script.run("P27 again and again", "'9.1;p9>0'=1 image()=1 days(1)=0 restore()=1 of(0,0)=9 days(2)=0 restore()=1 of(0,0)=9",
            "at(0,1)=9 count(2)=0 count(3)=0");
        Script.run("P27 THE DRAW, what may be UNDONE, too",
            "seed(5)=1 days(9)=0 image()=1 seed(6)=5 undo()=7 undo()=6 restore()=1 seed(7)=5 count(8)=8 undo()=7 seed(0)=5");
        Script.run("P27 what was to be UNDONE is, though a ROCK came between",
            "'50.1;p9'=1 press(0,0,1)=1 image()=1 '9.1'=1 undo()=NONE restore()=1 undo()=0 of(0,0)=50");
        Script.run("P27 what is known by the image stays, though 8 more were done",
            "'60.1;p99'=1 2*press(0,0,1)=1 image()=1 9*press(0,0,1)=1 restore()=1 count(8)=2 undo()=1 of(0,0)=56 undo()=0",
            "of(0,0)=60 undo()=NONE");
        Script.run("P27 all but SHEETS, THE TAPE",
            "sheet(0,0,2)=2 type(57)=1 image()=1 drop(0)=2 sheet(1,1,3)=3 type(46)=2 restore()=1 drop(0)=NULL drop(1)=3 type(49)=3",
            "rock()=1");
        Script.run("P27 a ROCK, a FAULT leave the image", "days(1)=0 image()=1 '9.1'=1 'x'=-20 restore()=1 count(0)=0 count(2)=1");
    }
}
