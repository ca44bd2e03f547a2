/** Promises 16 to 25: dark, size, then, gone, needs, sends, round, pair, small, slip. */
public final class ForetoldTest {
    public static void main(String[] args) {
        darkAndSize();
        then();
        gone();
        needs();
        sends();
        round();
        pair();
        small();
        slip();
        nothingIsChanged();
        Due.end();
    }

    private static void darkAndSize() {
        ErasingMonks x = Due.on("30.4/6,9.1;p20>0,n31>0");
        // NOVICE has corners on the first day alone. On the 4th PLAIN makes it 0, so 6 comes up,
        // of which NOVICE leaves 2; on the 5th PLAIN takes them away.
        int[] dark = {30, 20, 12, 4, 2, 0};
        int[] plain = {20, 16, 12, 8, 4, 0};
        int[] novice = {31, 27, 23, 19, 15, 15};
        for (int n = 0; n <= 5; n++) {
            Due.due("P16 dark behind " + n, x.dark(0, n), dark[n]);
            Due.due("P17 size behind " + n, x.size(0, n), plain[n]);
            Due.due("P17 size behind " + n, x.size(1, n), novice[n]);
        }
        Due.due("P16 60 days", x.dark(0, 60), 0);
        Due.due("P16 nobody rubs it", x.dark(1, 60), 9);
        Due.due("P16 above", x.dark(0, 61), -1);
        Due.due("P16 below", x.dark(0, -1), -1);
        Due.due("P16 no such mark", x.dark(2, 0), -1);
        Due.due("P16 no such mark", x.dark(-4, 0), -1);
        Due.due("P17 above", x.size(0, 61), -1);
        Due.due("P17 below", x.size(0, -1), -1);
        Due.due("P17 no such monk", x.size(2, 0), -1);
        Due.due("P17 no such monk", x.size(-1, 0), -1);
        Due.due("P17 60 days", x.size(1, 60), 15);
    }

    private static void then() {
        ErasingMonks x = Due.on("30.4,56.1/3,0.1;p20>0,s99>1");
        Due.due("P18 gone now", x.then(0, 0), 4);
        Due.due("P18 torn now", x.then(0, 1), 0);
        Due.due("P18 crumbs now", x.then(0, 2), 0);
        Due.due("P18 crumbs behind 2", x.then(2, 2), 10);
        Due.due("P18 torn behind 6", x.then(6, 1), 0);
        Due.due("P18 torn behind 7", x.then(7, 1), 2);
        Due.due("P18 gone behind 60", x.then(60, 0), 4);
        Due.due("P18 crumbs in all", x.then(60, 2), 27);
        x.days(2);
        Due.due("P18 crumbs in all from then", x.then(0, 2), 10);
        Due.due("P18 crumbs in all from then", x.then(58, 2), 27);
        Due.due("P18 above", x.then(61, 0), -1);
        Due.due("P18 two torn", Due.on("60.1,4.1,60.1;s99>0,p1,s99>2").then(60, 1), 1 | 4);
        Due.due("P18 below", x.then(-1, 0), -1);
        Due.due("P18 bad what", x.then(0, 3), -1);
        Due.due("P18 bad what", x.then(0, -1), -1);
    }

    private static void gone() {
        ErasingMonks x = Due.on("8.1/8,0.1,5.1,60.1;p9>0,s1>2,a60>3");
        Due.due("P19 two twice", x.gone(0), 4);
        Due.due("P19 now", x.gone(1), 0);
        Due.due("P19 one day", x.gone(2), 1);
        Due.due("P19 eight days", x.gone(3), 8);
        Due.due("P19 no such mark", x.gone(4), -1);
        Due.due("P19 no such mark", x.gone(-1), -1);
        x.send(0, -4);
        Due.due("P19 none", x.gone(0), -4);
        x = Due.on("60.1/60;p99>0");
        Due.due("P19 torn first", x.gone(0), -4);
        Due.due("P19 torn", x.then(60, 1), 1);
    }

    private static void needs() {
        ErasingMonks x = Due.on("9.3,0.1,60.2,5.2;p6,a99>3,p7");
        Due.due("P20 too small", x.needs(0, 0), -4);
        Due.due("P20 just", x.needs(2, 0), 3);
        Due.due("P20 gone", x.needs(0, 1), 0);
        Due.due("P20 wherever he is sent", x.needs(1, 2), 8);
        Due.due("P20 no such monk", x.needs(3, 0), -1);
        Due.due("P20 no such mark", x.needs(0, 4), -1);
        Due.due("P20 no such", x.needs(-1, -1), -1);
        // 20 rubs at most, then it is torn: 60 and 20 under.
        x = Due.on("60.1/20,60.1/21;p99");
        Due.due("P20 twenty rubs", x.needs(0, 0), 20);
        Due.due("P20 torn ahead", x.needs(0, 1), -4);
        x = Due.on("60.1/16;p99");
        Due.due("P20 nineteen", x.needs(0, 0), 19);
    }

    private static void sends() {
        ErasingMonks x = new ErasingMonks();
        Due.due("P21 nobody", x.sends(0, -1), 0);
        Due.due("P21 nobody", x.sends(0, 0), -4);
        x.monk(0, 9);
        Due.due("P21 no marks", x.sends(30, -1), 0);
        Due.due("P21 no marks", x.sends(30, 0), -4);
        x = Due.on("0.1,3.1,0.2");
        Due.due("P21 no monks: what is gone", x.sends(5, -1), 2);
        Due.due("P21 no monks", x.sends(5, 0), -4);

        x = Due.on("20.1,8.1,4.1;p9,p9>2,s9");
        Due.due("P21 one day", x.sends(1, -1), 2);
        Due.due("P21 of like ones the first", x.sends(1, 0), 0);
        Due.due("P21 of like ones the first", x.sends(1, 1), 2);
        Due.due("P21 of like ones the first", x.sends(1, 2), 1);
        Due.due("P21 not so many", x.sends(1, 3), -4);
        Due.due("P21 not so many", x.sends(1, Integer.MAX_VALUE), -4);
        Due.due("P21 in no days", x.sends(0, -1), 0);
        Due.due("P21 to the first", x.sends(0, 2), 0);
        Due.due("P21 three days", x.sends(3, -1), 3);
        Due.due("P21 three days", x.sends(3, 0), 1);
        Due.due("P21 three days", x.sends(3, 1), 2);
        Due.due("P21 three days", x.sends(3, 2), 0);
        Due.due("P21 above", x.sends(31, 0), -1);
        Due.due("P21 below", x.sends(-1, 0), -1);
        Due.due("P21 bad k", x.sends(0, -2), -1);
        x = Due.on("8.1;p9,p9>0");
        Due.due("P21 one mark", x.sends(1, -1), 1);
        Due.due("P21 one mark", x.sends(1, 0), 0);
        Due.due("P21 one mark", x.sends(1, 1), 0);
        // Two are needed at one mark.
        x = Due.on("60.1,8.1;p9,p9");
        Due.due("P21 both to one", x.sends(1, -1), 1);
        Due.due("P21 both to one", x.sends(1, 0), 1);
        Due.due("P21 both to one", x.sends(1, 1), 1);
        // A stiff one tears what a plain one alone takes away: he is kept elsewhere.
        x = Due.on("60.1/4,60.1;p99,s9");
        Due.due("P21 apart", x.sends(30, -1), 1);
        Due.due("P21 apart", x.sends(30, 0), 0);
        Due.due("P21 apart", x.sends(30, 1), 1);
    }

    private static void round() {
        // 20 to spare: the hard one would take all.
        ErasingMonks x = Due.on("12.9,8.3,0.5,8.3;p20");
        Due.due("P22 gone, the one that is, too", x.round(0, -1), 3);
        Due.due("P22 the first", x.round(0, 0), 1);
        Due.due("P22 the second", x.round(0, 1), 3);
        Due.due("P22 the third", x.round(0, 2), 0);
        Due.due("P22 not so many", x.round(0, 3), -4);
        Due.due("P22 bad k", x.round(0, -2), -1);
        Due.due("P22 no such monk", x.round(1, 0), -1);
        Due.due("P22 no such monk", x.round(-1, 0), -1);
        // A NOVICE has corners for the first ones only: 6 and 6 and 4, in the order that uses them.
        x = Due.on("4.5,12.5;n35");
        Due.due("P22 all gone in any order", x.round(0, -1), 2);
        Due.due("P22 of like ones the first", x.round(0, 0), 0);
        // The last crumb still rubs.
        x = Due.on("4.5,4.5,4.1;p6");
        Due.due("P22 two", x.round(0, -1), 2);
        Due.due("P22 first", x.round(0, 0), 0);
        Due.due("P22 then", x.round(0, 1), 1);
        Due.due("P22 then", x.round(0, 2), 2);
        x = Due.on("4.6,4.5,4.1;p6");
        Due.due("P22 two", x.round(0, -1), 2);
        Due.due("P22 first", x.round(0, 0), 1);
        Due.due("P22 then", x.round(0, 1), 0);
        Due.due("P22 then", x.round(0, 2), 2);
        // Torn ones are left out.
        x = Due.on("60.1,4.1;s99");
        x.press(0, 0, 60);
        Due.due("P22 torn", x.round(0, 0), 1);
        Due.due("P22 torn", x.round(0, 1), -4);
        Due.due("P22 one gone", x.round(0, -1), 1);
        x = new ErasingMonks();
        x.monk(0, 5);
        Due.due("P22 no marks", x.round(0, -1), 0);
        Due.due("P22 no marks", x.round(0, 0), -4);
        x = Due.on("4.1,4.1,4.1,4.1,4.1,4.1;p0");
        Due.due("P22 of size 0", x.round(0, -1), 0);
        for (int k = 0; k < 6; k++) {
            Due.due("P22 rising", x.round(0, k), k);
        }
    }

    private static void pair() {
        ErasingMonks x = Due.on("12.9;p99,a2");
        // ABBOT twice is 2 crumbs: 12 4 0; by PLAIN 0 rubs first.
        Due.due("P23 crumbs", x.pair(0, 0), 2);
        Due.due("P23 the pair", x.pair(0, 1), 1);
        Due.due("P23 rubs of the first", x.pair(0, 2), 0);
        // ABBOT can once only: he first once and PLAIN once, or PLAIN once and he once: 1 + 9.
        x = Due.on("12.9;p99,a1");
        Due.due("P23 crumbs", x.pair(0, 0), 10);
        Due.due("P23 of like ones the first pair", x.pair(0, 1), 1);
        Due.due("P23 rubs of the first", x.pair(0, 2), 1);
        // The last rub costs no more than he has: the first one may better be the small one last.
        x = Due.on("8.9;p99,p1");
        Due.due("P23 the crumb rubs too", x.pair(0, 0), 10);
        x = Due.on("8.9;p99");
        Due.due("P23 one alone is no pair", x.pair(0, 0), -4);
        x = Due.on("60.9/60;p99,p99");
        Due.due("P23 none", x.pair(0, 0), -4);
        Due.due("P23 none", x.pair(0, 1), -4);
        Due.due("P23 none", x.pair(0, 2), -4);
        x = Due.on("0.9,5.1;p99,p9,p8");
        Due.due("P23 gone: no crumbs", x.pair(0, 0), 0);
        Due.due("P23 gone: the first pair", x.pair(0, 1), 1);
        Due.due("P23 gone: no rubs", x.pair(0, 2), 0);
        Due.due("P23 no such mark", x.pair(2, 0), -1);
        Due.due("P23 no such mark", x.pair(-1, 0), -1);
        Due.due("P23 bad what", x.pair(0, 3), -1);
        Due.due("P23 bad what", x.pair(0, -1), -1);
        // Fewest rubs of the first ahead of the first pair: 0 rubs by (1, 0) and by (2, 0) of ABBOT 0.
        x = Due.on("16.5;a9,p9,p9");
        Due.due("P23 crumbs", x.pair(0, 0), 2);
        Due.due("P23 10 i and j", x.pair(0, 1), 10);
        Due.due("P23 rubs", x.pair(0, 2), 0);
        // Crumbs of earlier days are not told.
        x.days(1);
        x.press(1, 0, 1);
        Due.due("P23 crumbs of these rubs alone", x.pair(0, 0), 2);
    }

    private static void small() {
        ErasingMonks x = Due.on("9.3,0.1,60.2/30,12.4;p0,n99,a1,t3");
        Due.due("P24 PLAIN: two whole rubs and a crumb", x.small(0, 0), 7);
        Due.due("P24 gone", x.small(0, 1), 0);
        Due.due("P24 none", x.small(0, 2), -4);
        Due.due("P24 NOVICE as PLAIN", x.small(1, 3), 9);
        Due.due("P24 ABBOT", x.small(2, 3), 2);
        Due.due("P24 SAINT", x.small(3, 3), 7);
        Due.due("P24 no such monk", x.small(4, 0), -1);
        Due.due("P24 no such mark", x.small(0, 4), -1);
        Due.due("P24 no such", x.small(-1, -1), -1);
        x = Due.on("60.7,60.8;p5");
        Due.due("P24 fourteen whole rubs and a crumb: 99", x.small(0, 0), 99);
        Due.due("P24 above 99", x.small(0, 1), -4);
        // Torn ahead without corners: 60 and 30 under want them.
        x = Due.on("60.1/30;n5");
        int least = x.small(0, 0);
        Due.holds("P24 corners are wanted", least > 30);
        ErasingMonks just = new ErasingMonks();
        just.mark(60, 1, 30);
        just.monk(1, least);
        just.monk(1, least - 1);
        Due.holds("P24 just", just.needs(0, 0) > 0);
        Due.due("P24 not with less", just.needs(1, 0), -4);
    }

    private static void slip() {
        ErasingMonks x = Due.on("4.1,4.1,0.1,4.1;p9>0,p9>1,p9>1,p9");
        // Gone now: one. Mark 0 by one of 7 of 10, mark 1 by 1 less 9 of 100.
        int[][] due = {{1, 1}, {1, 1}, {973, 1000}, {637, 1000}, {0, 1}, {0, 1}, {0, 1}};
        for (int m = 0; m <= 6; m++) {
            Due.due("P25 above, at least " + m, x.slip(m, 3, 0), due[m][0]);
            Due.due("P25 below, at least " + m, x.slip(m, 3, 1), due[m][1]);
        }
        Due.due("P25 nobody is ill", x.slip(3, 0, 0), 1);
        Due.due("P25 nobody is ill", x.slip(3, 0, 1), 1);
        Due.due("P25 all are ill", x.slip(1, 10, 0), 1);
        Due.due("P25 all are ill", x.slip(2, 10, 0), 0);
        Due.due("P25 all are ill", x.slip(2, 10, 1), 1);
        Due.due("P25 lowest terms", x.slip(3, 5, 0), 3);
        Due.due("P25 lowest terms", x.slip(3, 5, 1), 8);
        int[][] bad = {{-1, 0, 0}, {7, 0, 0}, {0, -1, 0}, {0, 11, 0}, {0, 0, -1}, {0, 0, 2}};
        for (int[] b : bad) {
            Due.due("P25 bad", x.slip(b[0], b[1], b[2]), -1);
        }
        // Gone only if the stiff one, who tears it, is ill and both plain ones are not.
        x = Due.on("60.1/4;s9>0,p9>0,p9>0,p99");
        x.press(3, 0, 14);
        x.ink(0, 12);
        x.press(3, 0, 3);
        Due.due("P25 wool", x.of(0, 3), 17);
        Due.due("P25 it helps that one is ill", x.slip(1, 3, 0), 3 * 7 * 7);
        Due.due("P25 it helps that one is ill", x.slip(1, 3, 1), 1000);
        x = Due.on("8.1;p9>0,p9>0,p9>0,p9>0,p9>0");
        // At least two of five are well by 1 of 10: 1 less (9/10)^5 less 5 (1/10)(9/10)^4.
        Due.due("P25 five", x.slip(1, 9, 0), (100000 - 59049 - 5 * 6561) / 2);
        Due.due("P25 five", x.slip(1, 9, 1), 50000);
    }

    private static void nothingIsChanged() {
        ErasingMonks x = Due.on("20.3/5,8.1,4.1,60.9;p50>0,n40>1,s30>3,t20,a10>3");
        x.days(2);
        int[] ahead = look(x);
        x.dark(0, 9);
        x.size(0, 9);
        x.then(9, 0);
        x.gone(3);
        x.needs(0, 0);
        x.sends(9, -1);
        x.round(2, 0);
        x.pair(3, 0);
        x.small(1, 3);
        x.slip(2, 4, 0);
        x.sheet(0, 2, 8);
        x.film(0, 8, 0, 2, 0);
        x.worn(0, 0, 2, 0, 8, 0);
        x.worn(0, 0, 2, 0, 8, 1);
        int[] behind = look(x);
        for (int i = 0; i < ahead.length; i++) {
            Due.due("P16 to P30 nothing is changed: " + i, behind[i], ahead[i]);
        }
        Due.due("P15 nor the draw", x.seed(1), 1);
    }

    private static int[] look(ErasingMonks x) {
        int[] all = new int[4 * 7 + 5 * 3 + 9];
        int at = 0;
        for (int mark = 0; mark < 4; mark++) {
            for (int what = 0; what < 7; what++) {
                all[at++] = x.of(mark, what);
            }
        }
        for (int monk = 0; monk < 5; monk++) {
            for (int what = 0; what < 3; what++) {
                all[at++] = x.at(monk, what);
            }
        }
        for (int what = 0; what < 9; what++) {
            all[at++] = x.count(what);
        }
        return all;
    }
}
