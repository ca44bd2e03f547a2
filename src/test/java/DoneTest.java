/** Promises 9 to 15: days, send, press, ink, drift, undo, seed; and how kinds rub and wear. */
public final class DoneTest {
    public static void main(String[] args) {
        days();
        lastDay();
        inTurn();
        kinds();
        under();
        send();
        press();
        ink();
        drift();
        undo();
        seed();
        Due.end();
    }

    private static void days() {
        ErasingMonks x = Due.on("9.3,5.2/4;p30>0,s9>1");
        Due.due("P9 below", x.days(0), -1);
        Due.due("P9 below", x.days(-5), -1);
        Due.due("P9 above", x.days(41), -1);
        Due.due("P9 above", x.days(Integer.MAX_VALUE), -1);
        Due.due("P9 refused", x.count(2), 0);
        Due.due("P9 one day", x.days(1), 0);
        Due.due("P9 paler by 4", x.of(0, 0), 5);
        Due.due("P9 what was under", x.of(1, 0), 4);
        Due.due("P9 nothing under", x.of(1, 2), 0);
        Due.due("P9 smaller by hard", x.at(0, 1), 27);
        Due.due("P9 wool by 3", x.of(1, 3), 3);
        Due.due("P9 crumbs", x.count(3), 5);
        Due.due("P9 the next day", x.count(2), 1);
        Due.due("P9 the second is gone", x.days(1), 2);
        Due.due("P9 forty days", x.days(40), 3);
        Due.due("P9 the day", x.count(2), 42);
        Due.due("P9 each may be undone", x.count(8), 8);
        Due.due("P9 undone by itself", x.undo(), 7);
        Due.due("P9 the day ahead", x.count(2), 41);
    }

    private static void lastDay() {
        ErasingMonks x = Due.on("9.3;p1");
        for (int i = 0; i < 249; i++) {
            x.days(40);
        }
        Due.due("P9 day 9960", x.count(2), 9960);
        Due.due("P9 full", x.days(40), -3);
        Due.due("P13 full", x.drift(40), -3);
        Due.due("P9 bad ahead of full", x.days(41), -1);
        Due.due("P13 bad ahead of full", x.drift(41), -1);
        Due.due("P13 the draw stays", x.seed(1), 1);
        Due.due("P9 up to 9999", x.days(39), 0);
        Due.due("P9 day 9999", x.count(2), 9999);
        Due.due("P9 full", x.days(1), -3);
        Due.due("P13 full", x.drift(1), -3);
        Due.due("P9 undone", x.undo(), 7);
        Due.due("P13 up to 9999", x.drift(1), 0);
        Due.due("P13 day 9999", x.count(2), 9999);
        // The drift sent him to the only mark, where he rubbed his last.
        Due.due("P17 foretold beyond 9999", x.size(0, 60), 0);
    }

    /** Monks rub rising, each by how all is by then. */
    private static void inTurn() {
        // The first takes it away, so the second can't rub.
        ErasingMonks x = Due.on("4.3;p9>0,p9>0");
        Due.due("P9 gone", x.days(1), 1);
        Due.due("P9 the first rubbed", x.at(0, 1), 6);
        Due.due("P9 the second could not", x.at(1, 1), 9);
        // The first brings up what was under, the second rubs that.
        x = Due.on("4.3/4;p9>0,p9>0");
        Due.due("P9 gone", x.days(1), 1);
        Due.due("P9 the second could", x.at(1, 1), 6);
        // The first tears it.
        x = Due.on("60.1;s99,p9>0");
        x.press(0, 0, 6);
        x.send(0, 0);
        x.days(1);
        Due.due("P9 torn by the first", x.of(0, 5), 1);
        Due.due("P9 the second could not", x.at(1, 1), 9);
        // A monk of SIZE 0 can't rub; nobody is sent from elsewhere.
        x = Due.on("8.3,8.3;p0>0,p9");
        x.days(3);
        Due.due("P9 as dark", x.of(0, 0), 8);
        Due.due("P9 as dark", x.of(1, 0), 8);
        Due.due("P9 as large", x.at(1, 1), 9);
    }

    private static void kinds() {
        // kind, size, hard: less dark, less size, more wool.
        int[][] rows = {
            {0, 99, 9, 4, 9, 1}, {0, 29, 1, 4, 1, 1},
            {1, 30, 5, 6, 5, 1}, {1, 29, 5, 4, 5, 1}, {1, 99, 9, 6, 9, 1},
            {2, 99, 7, 8, 7, 3}, {2, 29, 7, 8, 7, 3},
            {3, 30, 1, 6, 1, 1}, {3, 29, 9, 4, 5, 1}, {3, 30, 8, 6, 5, 1}, {3, 99, 2, 6, 2, 1},
            {4, 30, 9, 8, 1, 2}, {4, 1, 9, 8, 1, 2}};
        for (int[] row : rows) {
            ErasingMonks x = new ErasingMonks();
            x.mark(50, row[2], 0);
            x.monk(row[0], row[1]);
            String what = "P11 rub of kind " + row[0] + " size " + row[1];
            Due.due(what, x.press(0, 0, 1), 1);
            Due.due(what + " dark", x.of(0, 0), 50 - row[3]);
            Due.due(what + " size", x.at(0, 1), row[1] - row[4]);
            Due.due(what + " wool", x.of(0, 3), row[5]);
            Due.due(what + " crumbs", x.count(3), row[4]);
        }
        // SIZE is 0 at least, and only what he lost are crumbs.
        ErasingMonks x = Due.on("50.9;p5");
        Due.due("P11 once", x.press(0, 0, 60), 1);
        Due.due("P11 size 0", x.at(0, 1), 0);
        Due.due("P11 crumbs", x.count(3), 5);
    }

    private static void under() {
        ErasingMonks x = Due.on("0.1/5;p9>0");
        Due.due("P9 not gone", x.count(4), 0);
        x.days(1);
        Due.due("P9 what was under", x.of(0, 0), 5);
        Due.due("P9 nothing under", x.of(0, 2), 0);
        Due.due("P9 it was a rub", x.at(0, 1), 8);
        Due.due("P9 gone", x.days(2), 1);
        // The rest of a rub is lost on what was under.
        x = Due.on("1.1/8;s9>0");
        x.days(1);
        Due.due("P9 all of it", x.of(0, 0), 8);
        // Inked above what is under.
        x = Due.on("0.1/5;p9");
        Due.due("P12 above", x.ink(0, 3), 3);
        Due.due("P12 under stays", x.of(0, 2), 5);
    }

    private static void send() {
        ErasingMonks x = Due.on("9.3,5.2;p30>0,s9");
        Due.due("P10 where he was", x.send(0, 1), 0);
        Due.due("P10 he is", x.send(0, 1), -2);
        Due.due("P10 to none", x.send(0, -4), 1);
        Due.due("P10 he is", x.send(0, -4), -2);
        Due.due("P10 he is", x.send(1, -4), -2);
        Due.due("P10 from none", x.send(1, 0), -4);
        Due.due("P10 no such monk", x.send(2, 0), -1);
        Due.due("P10 no such monk", x.send(-1, 0), -1);
        Due.due("P10 no such mark", x.send(0, 2), -1);
        Due.due("P10 no such mark", x.send(0, -1), -1);
        Due.due("P10 no such mark", x.send(0, -5), -1);
        Due.due("P10 no such mark", x.send(0, Integer.MIN_VALUE), -1);
        Due.due("P10 three may be undone", x.count(8), 3);
        Due.due("P10 undone", x.undo(), 2);
        Due.due("P10 none again", x.at(1, 2), -4);
        Due.due("P10 undone", x.undo(), 1);
        Due.due("P10 at 1 again", x.at(0, 2), 1);
    }

    private static void press() {
        ErasingMonks x = Due.on("9.3,0.2,20.1;p30>1,s9,p0");
        Due.due("P11 below", x.press(0, 0, 0), -1);
        Due.due("P11 above", x.press(0, 0, 61), -1);
        Due.due("P11 no such monk", x.press(3, 0, 1), -1);
        Due.due("P11 no such monk", x.press(-1, 0, 1), -1);
        Due.due("P11 no such mark", x.press(0, 3, 1), -1);
        Due.due("P11 no such mark", x.press(0, -4, 1), -1);
        Due.due("P11 gone", x.press(0, 1, 1), -2);
        Due.due("P11 of size 0", x.press(2, 0, 1), -2);
        Due.due("P11 nothing to be undone", x.count(8), 0);
        Due.due("P11 twice", x.press(0, 0, 2), 2);
        Due.due("P11 dark", x.of(0, 0), 1);
        Due.due("P11 still sent elsewhere", x.at(0, 2), 1);
        Due.due("P11 as often as he can", x.press(0, 0, 60), 1);
        Due.due("P11 no day", x.count(2), 0);
        Due.due("P11 one each", x.count(8), 2);
        Due.due("P11 undone", x.undo(), 1);
        Due.due("P11 undone", x.undo(), 0);
        Due.due("P11 dark", x.of(0, 0), 9);
        Due.due("P11 size", x.at(0, 1), 30);
        Due.due("P11 wool", x.of(0, 3), 0);
        Due.due("P11 crumbs", x.count(3), 0);
        x = Due.on("60.1;s99");
        Due.due("P11 until torn", x.press(0, 0, 60), 7);
        Due.due("P11 torn", x.press(0, 0, 1), -2);
    }

    private static void ink() {
        ErasingMonks x = Due.on("9.3,0.2,60.1;s99");
        Due.due("P12 below", x.ink(0, 0), -1);
        Due.due("P12 above", x.ink(0, 61), -1);
        Due.due("P12 no such mark", x.ink(3, 1), -1);
        Due.due("P12 no such mark", x.ink(-1, 1), -1);
        Due.due("P12 darker", x.ink(0, 50), 59);
        Due.due("P12 60 at most", x.ink(0, 50), 60);
        Due.due("P12 it is then", x.of(0, 0), 60);
        Due.due("P12 one that is gone", x.ink(1, 1), 1);
        Due.due("P12 is not", x.count(4), 0);
        Due.due("P12 three", x.count(8), 3);
        x.press(0, 2, 60);
        Due.due("P12 torn", x.ink(2, 1), -2);
        Due.due("P12 bad ahead of torn", x.ink(2, 0), -1);
        Due.due("P12 refused", x.count(8), 4);
        Due.due("P12 undone", x.undo(), 3);
        Due.due("P12 undone", x.undo(), 2);
        Due.due("P12 gone again", x.count(4), 2);
    }

    private static void drift() {
        ErasingMonks x = Due.on("50.1,50.1,50.1;p90,p90");
        long draw = 1;
        int[] where = {-4, -4};
        int[] dark = {50, 50, 50};
        for (int day = 0; day < 12; day++) {
            draw = (draw * 1103515245L + 12345L) & 0x7fffffffL;
            where[(int) (draw / 65536 % 2)] = (int) (draw / 128 % 3);
            for (int monk = 0; monk < 2; monk++) {
                if (where[monk] >= 0) {
                    dark[where[monk]] = Math.max(0, dark[where[monk]] - 4);
                }
            }
            Due.due("P13 a day", x.drift(1) >= 0 ? 1 : 0, 1);
            for (int monk = 0; monk < 2; monk++) {
                Due.due("P13 where", x.at(monk, 2), where[monk]);
            }
            for (int mark = 0; mark < 3; mark++) {
                Due.due("P13 dark", x.of(mark, 0), dark[mark]);
            }
        }
        Due.due("P13 the draw", x.seed(1), draw);
        Due.due("P13 below", x.drift(0), -1);
        Due.due("P13 above", x.drift(41), -1);

        ErasingMonks many = Due.on("50.1,50.1,50.1;p90,p90");
        many.drift(12);
        Due.due("P13 twelve at once", many.count(6), x.count(6));
        Due.due("P13 each may be undone", many.count(8), 8);
        Due.due("P13 undone with who is sent", many.undo(), 7);
        Due.due("P13 the day", many.count(2), 11);
        many.drift(1);
        Due.due("P13 by the same draw", many.count(6), x.count(6));
        Due.due("P13 and draw then", many.seed(0), draw);

        ErasingMonks nobody = new ErasingMonks();
        Due.due("P13 nobody", nobody.drift(1), 0);
        Due.due("P13 the draw goes on", nobody.seed(0), (1103515245L + 12345L) & 0x7fffffffL);
        nobody.mark(9, 1, 0);
        Due.due("P13 no monks", nobody.drift(1), 0);
        Due.due("P13 from 0", nobody.seed(1), 12345);
        ErasingMonks bare = new ErasingMonks();
        bare.monk(0, 9);
        Due.due("P13 no marks", bare.drift(3), 0);
        Due.due("P13 sent to none", bare.at(0, 2), -4);
    }

    private static void undo() {
        ErasingMonks x = Due.on("50.3/9,40.2;p90>0,s9");
        x.days(1);
        x.seed(99);
        x.send(1, 1);
        x.seed(100);
        x.press(1, 0, 2);
        x.ink(1, 7);
        x.drift(2);
        Due.due("P14 six", x.count(8), 6);
        for (int left = 5; left >= 0; left--) {
            Due.due("P14 how many more", x.undo(), left);
        }
        Due.due("P14 none", x.undo(), -4);
        Due.due("P14 day", x.count(2), 0);
        Due.due("P14 crumbs", x.count(3), 0);
        Due.due("P14 dark", x.of(0, 0), 50);
        Due.due("P14 wool", x.of(0, 3), 0);
        Due.due("P14 size", x.at(0, 1), 90);
        Due.due("P14 sent", x.at(1, 2), -4);
        Due.due("P14 the draw, whatever was told since", x.seed(1), 1);

        x = Due.on("60.1;p99");
        for (int i = 1; i <= 11; i++) {
            x.press(0, 0, 1);
            Due.due("P14 known", x.count(8), Math.min(8, i));
        }
        for (int left = 7; left >= 0; left--) {
            Due.due("P14 undone", x.undo(), left);
            Due.due("P14 dark", x.of(0, 0), 60 - 4 * (3 + left));
        }
        Due.due("P14 older ones are lost", x.undo(), -4);
        Due.due("P14 dark", x.of(0, 0), 48);

        // Known ones behind undone ones: the ring goes on.
        for (int i = 0; i < 5; i++) {
            x.press(0, 0, 1);
        }
        x.undo();
        x.undo();
        x.ink(0, 5);
        Due.due("P14 four", x.count(8), 4);
        Due.due("P14 dark", x.of(0, 0), 48 - 12 + 5);
        Due.due("P14 undone", x.undo(), 3);
        Due.due("P14 dark", x.of(0, 0), 36);
        Due.due("P14 a rock", Due.rock(x, "3.1"), 1);
        Due.due("P14 leaves nothing", x.undo(), -4);
    }

    private static void seed() {
        ErasingMonks x = new ErasingMonks();
        Due.due("P15 below", x.seed(-1), -1);
        Due.due("P15 below", x.seed(Integer.MIN_VALUE), -1);
        Due.due("P15 what it was", x.seed(0), 1);
        Due.due("P15 what it was", x.seed(Integer.MAX_VALUE), 0);
        Due.due("P15 what it was", x.seed(3), Integer.MAX_VALUE);
        Due.due("P15 nothing to be undone", x.count(8), 0);
        x.seed(Integer.MAX_VALUE);
        x.drift(1);
        Due.due("P15 the lowest 31 bits", x.seed(0), (Integer.MAX_VALUE * 1103515245L + 12345L) & 0x7fffffffL);
    }
}
