/** The bounds that 'Terms' and its blocks tell, a run of its own for each sentence. */
public final class BoundsTermsTest {
    public static void main(String[] args) {
        answers();
        firstOfSeveral();
        firstOfSeveralOnSheets();
        marksAndMonks();
        rubs();
        leastAndMost();
        under();
        day();
        done();
        Due.end();
    }

    private static void answers() {
        Script.run("T there is no such thing, neither mark nor monk",
            "of(0,0)=BAD at(0,0)=BAD send(0,0)=BAD send(0,NONE)=BAD press(0,0,1)=BAD ink(0,1)=BAD dark(0,0)=BAD",
            "size(0,0)=BAD gone(0)=BAD needs(0,0)=BAD round(0,-1)=BAD pair(0,0)=BAD small(0,0)=BAD",
            "worn(0,0,0,0,1,0)=BAD film(0,1,0,0,0)=BAD");
        Script.run("T there is no such monk, but a mark",
            "mark(9,1,0)=0 of(0,0)=9 at(0,0)=BAD send(0,0)=BAD press(0,0,1)=BAD size(0,0)=BAD needs(0,0)=BAD",
            "round(0,0)=BAD small(0,0)=BAD pair(0,0)=NONE dark(0,60)=9 gone(0)=NONE");
        Script.run("T there is no such mark, but a monk",
            "monk(0,9)=0 at(0,1)=9 of(0,0)=BAD send(0,0)=BAD send(0,NONE)=NOT press(0,0,1)=BAD ink(0,1)=BAD",
            "needs(0,0)=BAD small(0,0)=BAD pair(0,0)=BAD gone(0)=BAD dark(0,0)=BAD size(0,60)=9");
        Script.run("T sets are bits, the first and the last mark",
            "'0.1,1.1,1.1,1.1,1.1,0.1'=6 count(4)=33 then(60,0)=33");
        Script.run("T sets are bits, all marks", "'0.1,0.1,0.1,0.1,0.1,0.1'=6 count(4)=63 days(1)=63");
        Script.run("T sets are bits, the first and the last monk",
            "'9.1;p1>0,p1,p1,p1,p1>0'=1 of(0,6)=17 send(0,NONE)=0 of(0,6)=16");
        Script.run("T what is divided is cut: half of HARD 9, 8, 1 of a SAINT, and 1",
            "'60.9,60.8,60.1;t99'=3 press(0,0,1)=1 at(0,1)=94 press(0,1,1)=1 at(0,1)=89 press(0,2,1)=1 at(0,1)=88");
    }

    private static void firstOfSeveral() {
        Script.run("T BAD, then FULL: mark",
            "'1.1,1.1,1.1,1.1,1.1,1.1'=6 mark(61,1,1)=BAD mark(1,0,1)=BAD mark(1,1,61)=BAD mark(1,1,1)=FULL");
        Script.run("T BAD, then FULL: monk",
            "'1.1;p1,p1,p1,p1,p1'=1 monk(5,1)=BAD monk(1,100)=BAD monk(1,1)=FULL");
        Script.run("T BAD, then FULL: days, drift",
            "249*days(40)=0 days(39)=0 days(41)=BAD days(0)=BAD drift(41)=BAD drift(0)=BAD days(1)=FULL drift(1)=FULL");
        Script.run("T BAD, then NOT: send",
            "'9.1;p9>0,p9'=1 send(2,0)=BAD send(0,1)=BAD send(2,NONE)=BAD send(0,0)=NOT send(1,NONE)=NOT");
        Script.run("T BAD, then NOT: press on what is gone",
            "'0.1;p9'=1 press(0,0,0)=BAD press(0,0,61)=BAD press(0,1,1)=BAD press(1,0,1)=BAD press(0,0,1)=NOT");
        Script.run("T BAD, then NOT: press by a monk of SIZE 0",
            "'9.1;p0'=1 press(0,0,0)=BAD press(0,0,61)=BAD press(0,0,60)=NOT");
        Script.run("T BAD, then NOT: ink on what is torn",
            "'60.1;s99'=1 press(0,0,60)=7 ink(0,0)=BAD ink(0,61)=BAD ink(1,1)=BAD ink(0,1)=NOT ink(0,60)=NOT");
        Script.run("T BAD, then NONE: sends, round, pair",
            "sends(31,0)=BAD sends(-1,9)=BAD sends(30,0)=NONE monk(0,9)=0 round(1,9)=BAD round(0,0)=NONE",
            "mark(9,1,0)=0 pair(0,3)=BAD pair(0,2)=NONE");
    }

    private static void firstOfSeveralOnSheets() {
        String rows = "'50.4;p9'=1 sheet(0,2,3)=3 sheet(1,1,0)=0 sheet(3,3,3)=3";
        Script.run("T BAD, NULL, CAST, INDEX, NOT: worn", rows,
            "worn(1,2,0,-1,9,2)=BAD worn(0,2,4,-1,1,1)=BAD worn(0,2,0,-1,9,1)=BAD worn(0,2,0,-1,1,2)=BAD",
            "worn(0,2,0,-1,1,1)=NULL worn(0,0,0,-1,1,1)=CAST worn(0,0,2,-1,1,1)=INDEX worn(0,1,1,0,1,1)=INDEX",
            "worn(0,0,2,0,3,1)=NOT worn(0,0,2,0,3,0)=0");
        Script.run("T BAD, NULL, CAST, INDEX, NOT: swept", rows,
            "swept(100,2,0,-1,1)=BAD swept(1,2,4,-1,1)=BAD swept(1,2,0,-1,6)=BAD swept(1,4,0,-1,1)=BAD",
            "swept(1,2,0,-1,1)=NULL swept(1,0,0,-1,1)=CAST swept(1,0,2,-1,1)=INDEX swept(1,0,2,0,4)=INDEX",
            "swept(1,0,2,0,3)=NOT");
        Script.run("T BAD, NULL, CAST, INDEX: film", rows,
            "film(1,1,2,0,-1)=BAD film(0,25,2,0,-1)=BAD film(0,1,2,4,-1)=BAD film(0,1,4,0,-1)=BAD",
            "film(0,4,2,0,-1)=NULL film(0,4,0,0,-1)=CAST film(0,4,0,2,0)=INDEX film(0,3,0,2,0)=3");
        Script.run("T BAD, SIZE: sheet", "sheet(4,0,-1)=BAD sheet(0,4,-1)=BAD sheet(0,0,-1)=SIZE sheet(0,0,25)=BAD");
        Script.run("T BAD, NULL: drop", "drop(4)=BAD drop(-1)=BAD drop(3)=NULL drop(0)=NULL");
        Script.run("T BAD, NULL, CAST, INDEX: item", rows,
            "item(4,2,-1,1)=BAD item(2,4,-1,1)=BAD item(2,2,-1,1)=NULL item(0,1,-1,1)=CAST item(0,2,-1,1)=INDEX",
            "item(1,1,0,1)=INDEX item(0,2,0,1)=1");
        Script.run("T BAD, NULL, CAST, INDEX: copy", rows,
            "copy(4,-1,2,-1,9)=BAD copy(2,-1,4,-1,9)=BAD copy(2,-1,0,-1,9)=NULL copy(0,-1,2,-1,9)=NULL",
            "copy(2,0,2,0,0)=NULL copy(0,-1,3,-1,9)=CAST copy(0,-1,0,-1,9)=INDEX copy(0,0,0,0,3)=3");
    }

    private static void marksAndMonks() {
        Script.run("T a mark is GONE, if it is DARK by 0, and so is what is UNDER it",
            "'0.1,0.1/1,1.1,1.1/1'=4 of(0,4)=1 of(1,4)=0 of(2,4)=0 of(3,4)=0 count(4)=1");
        Script.run("T with WOOL 20 they are TORN, with 19 not",
            "'60.1/60;p99'=1 press(0,0,19)=19 of(0,3)=19 of(0,5)=0 count(5)=0 press(0,0,1)=1 of(0,3)=20 of(0,5)=1",
            "count(5)=1");
        Script.run("T what is TORN may be GONE, too",
            "'60.1/20;p99'=1 press(0,0,60)=20 of(0,4)=1 of(0,5)=1 count(4)=1 count(5)=1");
        Script.run("T WOOL 0 at first, SENT to none at first",
            "mark(9,1,0)=0 monk(0,9)=0 of(0,3)=0 of(0,6)=0 at(0,2)=NONE days(40)=0 of(0,0)=9 at(0,1)=9");
        Script.run("T DAY 0 at first, CRUMBS 0", "count(2)=0 count(3)=0");
    }

    private static void rubs() {
        Script.run("T a rub on a mark that is not TORN",
            "'60.1/60;s99,p9>0'=1 press(0,0,7)=7 press(1,0,1)=NOT press(0,0,1)=NOT days(1)=0 at(1,1)=9 of(0,0)=4");
        Script.run("T a rub on a mark that is not GONE",
            "'0.1;p9>0'=1 press(0,0,1)=NOT days(1)=1 at(0,1)=9 of(0,3)=0");
        Script.run("T a rub of a monk of a SIZE above 0",
            "'9.1;p0>0,p1'=1 press(0,0,1)=NOT days(1)=0 of(0,0)=9 press(1,0,2)=1 at(1,1)=0 of(0,0)=5 press(1,0,1)=NOT");
        Script.run("T PLAIN: by 4; by HARD; by 1",
            "'60.7;p99'=1 press(0,0,1)=1 of(0,0)=56 at(0,1)=92 of(0,3)=1");
        Script.run("T NOVICE: by 6, if SIZE is 30 or more, else as PLAIN",
            "'60.1;n31'=1 press(0,0,1)=1 of(0,0)=54 press(0,0,1)=1 of(0,0)=48 press(0,0,1)=1 of(0,0)=44 at(0,1)=28",
            "of(0,3)=3");
        Script.run("T NOVICE: by SIZE as it is ahead", "'60.9;n30'=1 press(0,0,1)=1 of(0,0)=54 at(0,1)=21");
        Script.run("T STIFF: by twice as much as PLAIN; by HARD; by 3",
            "'60.9;s9'=1 press(0,0,60)=1 of(0,0)=52 at(0,1)=0 of(0,3)=3");
        Script.run("T SAINT: as NOVICE; by half of HARD, and 1; by 1",
            "'60.2;t33'=1 press(0,0,1)=1 of(0,0)=54 at(0,1)=31 press(0,0,1)=1 of(0,0)=48 at(0,1)=29",
            "press(0,0,1)=1 of(0,0)=44 at(0,1)=27 of(0,3)=3");
        Script.run("T ABBOT: as STIFF; by 1; by 2",
            "'60.9;a2'=1 press(0,0,60)=2 of(0,0)=44 at(0,1)=0 of(0,3)=4 count(3)=2");
    }

    private static void leastAndMost() {
        Script.run("T DARK is 0 at least",
            "'3.1,4.1,5.1;p9'=3 press(0,0,1)=1 of(0,0)=0 press(0,1,1)=1 of(1,0)=0 press(0,2,1)=1 of(2,0)=1 count(4)=3");
        Script.run("T SIZE is 0 at least, and only what he lost are CRUMBS",
            "'50.9;p8,p9,p10'=1 press(0,0,2)=1 at(0,1)=0 count(3)=8 press(1,0,2)=1 at(1,1)=0 count(3)=17",
            "press(2,0,2)=2 at(2,1)=0 count(3)=27 of(0,0)=34");
        Script.run("T SIZE is 0 at least: a SAINT's last", "'50.9;t4'=1 press(0,0,60)=1 at(0,1)=0 count(3)=4");
        Script.run("T WOOL is 20 at most: by 3",
            "'60.1/60;s99'=1 press(0,0,6)=6 of(0,3)=18 of(0,5)=0 press(0,0,60)=1 of(0,3)=20 of(0,5)=1");
        Script.run("T WOOL is 20 at most: by 2",
            "'60.1/60;a99'=1 press(0,0,9)=9 of(0,3)=18 press(0,0,60)=1 of(0,3)=20 of(0,0)=44");
        Script.run("T WOOL is 20 at most: 19 and 2",
            "'60.1/60;p99,a9'=1 press(0,0,19)=19 press(1,0,2)=1 of(0,3)=20 of(0,5)=1");
    }

    private static void under() {
        Script.run("T behind a rub a mark DARK by 0 is DARK by what was UNDER it, and nothing is UNDER it",
            "'4.1/5,0.1/60;p9'=2 press(0,0,1)=1 of(0,0)=5 of(0,2)=0 press(0,1,1)=1 of(1,0)=60 of(1,2)=0 of(1,3)=1");
        Script.run("T what is left of a rub is lost", "'1.1/8;s9'=1 press(0,0,1)=1 of(0,0)=8 of(0,2)=0");
        Script.run("T (if it is not TORN): by the 20th rub what is UNDER stays there",
            "'60.1/9;p99'=1 press(0,0,5)=5 ink(0,20)=60 press(0,0,60)=15 of(0,0)=0 of(0,2)=9 of(0,3)=20 of(0,4)=0",
            "of(0,5)=1 ink(0,1)=NOT press(0,0,1)=NOT");
        Script.run("T (if it is not TORN): by the 19th rub it comes up",
            "'60.1/9;p99'=1 press(0,0,5)=5 ink(0,16)=56 press(0,0,14)=14 of(0,0)=9 of(0,2)=0 of(0,3)=19 of(0,5)=0");
        Script.run("T ink alone brings nothing up, nor is a mark DARK by 0 at first DARK by what is UNDER it",
            "'0.1/7'=1 of(0,0)=0 of(0,2)=7 ink(0,3)=3 of(0,2)=7 days(1)=0 of(0,0)=3");
    }

    private static void day() {
        Script.run("T monks, rising: the first takes it away, the second can't",
            "'4.3;p9>0,p9>0'=1 days(1)=1 at(0,1)=6 at(1,1)=9 count(3)=3");
        Script.run("T by how all is by then: the second rubs what came up",
            "'4.3/4;p9>0,p9>0'=1 days(1)=1 at(0,1)=6 at(1,1)=6");
        Script.run("T by how all is by then: the first tears it",
            "'60.1;s99>0,p9>0'=1 press(0,0,6)=6 days(1)=0 of(0,5)=1 of(0,0)=4 at(1,1)=9");
        Script.run("T each once", "'60.1,60.1;p9>0,p9>0,p9>1'=2 days(1)=0 of(0,0)=52 of(1,0)=56 count(3)=3");
        Script.run("T it is the next day, with nobody, too", "days(1)=0 count(2)=1 days(40)=0 count(2)=41");
    }

    private static void done() {
        Script.run("T PRESSED wherever he is SENT",
            "'9.1,9.1;p9>1'=2 press(0,0,1)=1 of(0,0)=5 of(1,0)=9 at(0,2)=1 count(2)=0");
        Script.run("T PRESSED as often as he can: gone, no SIZE, torn",
            "'9.1,60.9,60.1/60;p20,p10,s99'=3 press(0,0,60)=3 press(1,1,60)=2 press(2,2,60)=7");
        Script.run("T INKED, 60 at most", "'59.1,0.1,60.1'=3 ink(0,1)=60 ink(1,60)=60 ink(2,1)=60 ink(0,60)=60");
    }
}
