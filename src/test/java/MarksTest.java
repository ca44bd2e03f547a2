/** Promises 1 to 8: a new object, mark, monk, of, at, type, rock, count. */
public final class MarksTest {
    public static void main(String[] args) {
        newObject();
        marks();
        monks();
        ofMarks();
        atMonks();
        tape();
        rocks();
        faults();
        counts();
        Due.end();
    }

    private static void newObject() {
        ErasingMonks x = new ErasingMonks();
        for (int what = 0; what <= 8; what++) {
            Due.due("P1 new count(" + what + ")", x.count(what), 0);
        }
        Due.due("P1 draw is 1 at first", x.seed(5), 1);
        Due.due("P1 no image", x.restore(), -4);
        Due.due("P1 nothing to undo", x.undo(), -4);
        Due.due("P1 empty tape", x.type(65), 1);
        for (int sheet = 0; sheet < 4; sheet++) {
            Due.due("P1 no sheet " + sheet, x.drop(sheet), -11);
        }
    }

    private static void marks() {
        ErasingMonks x = new ErasingMonks();
        int[][] bad = {{-1, 1, 0}, {61, 1, 0}, {0, 0, 0}, {0, 10, 0}, {0, 1, -1}, {0, 1, 61},
            {Integer.MIN_VALUE, 1, 0}, {Integer.MAX_VALUE, 1, 0}, {0, Integer.MIN_VALUE, 0}, {0, 1, Integer.MAX_VALUE}};
        for (int[] b : bad) {
            Due.due("P2 bad mark", x.mark(b[0], b[1], b[2]), -1);
        }
        Due.due("P2 refused changes nothing", x.count(0), 0);
        Due.due("P2 least", x.mark(0, 1, 0), 0);
        Due.due("P2 most", x.mark(60, 9, 60), 1);
        for (int i = 2; i < 6; i++) {
            Due.due("P2 number", x.mark(i, i, i), i);
        }
        Due.due("P2 full", x.mark(1, 1, 1), -3);
        Due.due("P2 bad ahead of full", x.mark(61, 1, 1), -1);
        Due.due("P2 six", x.count(0), 6);
        Due.due("P2 dark", x.of(1, 0), 60);
        Due.due("P2 hard", x.of(1, 1), 9);
        Due.due("P2 under", x.of(1, 2), 60);
        Due.due("P2 wool", x.of(1, 3), 0);

        x = Due.on("9.1;p9>0");
        x.days(2);
        Due.due("P2 refused keeps what may be undone", x.mark(0, 0, 0), -1);
        Due.due("P2 two may be undone", x.count(8), 2);
        Due.due("P2 a new mark", x.mark(3, 3, 3), 1);
        Due.due("P2 leaves nothing to be undone", x.count(8), 0);
        Due.due("P2 nothing", x.undo(), -4);
        Due.due("P2 the day stays", x.count(2), 2);
        Due.due("P2 crumbs stay", x.count(3), 2);
    }

    private static void monks() {
        ErasingMonks x = new ErasingMonks();
        int[][] bad = {{-1, 0}, {5, 0}, {0, -1}, {0, 100}, {Integer.MAX_VALUE, 1}, {1, Integer.MIN_VALUE}};
        for (int[] b : bad) {
            Due.due("P3 bad monk", x.monk(b[0], b[1]), -1);
        }
        Due.due("P3 refused changes nothing", x.count(1), 0);
        for (int i = 0; i < 5; i++) {
            Due.due("P3 number", x.monk(i, i == 4 ? 99 : i), i);
        }
        Due.due("P3 full", x.monk(0, 0), -3);
        Due.due("P3 bad ahead of full", x.monk(5, 0), -1);
        Due.due("P3 kind", x.at(4, 0), 4);
        Due.due("P3 size", x.at(4, 1), 99);
        Due.due("P3 to none at first", x.at(4, 2), -4);

        x = Due.on("9.1;p9>0");
        x.days(2);
        Due.due("P3 refused keeps what may be undone", x.monk(0, 100), -1);
        Due.due("P3 two", x.count(8), 2);
        Due.due("P3 new", x.monk(0, 5), 1);
        Due.due("P3 leaves nothing to be undone", x.count(8), 0);
        Due.due("P3 nothing", x.undo(), -4);
    }

    private static void ofMarks() {
        ErasingMonks x = Due.on("5.3/7,0.1;p9>1,n9>1,s9,t9>0,a9>1");
        int[] due = {5, 3, 7, 0, 0, 0, 8};
        for (int what = 0; what < due.length; what++) {
            Due.due("P4 of(0, " + what + ")", x.of(0, what), due[what]);
        }
        Due.due("P4 gone", x.of(1, 4), 1);
        Due.due("P4 sent, a set", x.of(1, 6), 1 | 2 | 16);
        Due.due("P4 bad what", x.of(0, 7), -1);
        Due.due("P4 bad what", x.of(0, -1), -1);
        Due.due("P4 no such mark", x.of(2, 0), -1);
        Due.due("P4 no such mark", x.of(-1, 0), -1);
        Due.due("P4 none is no mark", x.of(-4, 6), -1);
        Due.due("P4 no such mark", x.of(Integer.MAX_VALUE, 0), -1);

        // A stiff one: wool by 3, torn by 20 at most.
        x = Due.on("60.1/9;s99");
        Due.due("P4 press", x.press(0, 0, 6), 6);
        Due.due("P4 wool 18", x.of(0, 3), 18);
        Due.due("P4 not torn", x.of(0, 5), 0);
        Due.due("P4 press", x.press(0, 0, 6), 1);
        Due.due("P4 wool 20 at most", x.of(0, 3), 20);
        Due.due("P4 torn", x.of(0, 5), 1);
        Due.due("P4 dark 4", x.of(0, 0), 4);
        Due.due("P4 not gone", x.of(0, 4), 0);

        // Torn by the rub that makes it DARK by 0: what is UNDER stays there.
        x = Due.on("56.1/9;s99");
        Due.due("P4 press", x.press(0, 0, 60), 7);
        Due.due("P4 torn dark 0", x.of(0, 0), 0);
        Due.due("P4 under stays", x.of(0, 2), 9);
        Due.due("P4 torn not gone", x.of(0, 4), 0);

        // Torn and gone at once.
        x = Due.on("56.1;s99");
        Due.due("P4 press", x.press(0, 0, 60), 7);
        Due.due("P4 gone", x.of(0, 4), 1);
        Due.due("P4 and torn", x.of(0, 5), 1);
    }

    private static void atMonks() {
        ErasingMonks x = Due.on("5.3,6.2;a12>1,t0");
        Due.due("P5 kind", x.at(0, 0), 4);
        Due.due("P5 size", x.at(0, 1), 12);
        Due.due("P5 where", x.at(0, 2), 1);
        Due.due("P5 kind", x.at(1, 0), 3);
        Due.due("P5 size", x.at(1, 1), 0);
        Due.due("P5 to none", x.at(1, 2), -4);
        Due.due("P5 bad", x.at(2, 0), -1);
        Due.due("P5 bad", x.at(-1, 0), -1);
        Due.due("P5 bad", x.at(0, 3), -1);
        Due.due("P5 bad", x.at(0, -1), -1);
        Due.due("P5 bad", x.at(Integer.MIN_VALUE, 0), -1);
    }

    private static void tape() {
        ErasingMonks x = new ErasingMonks();
        Due.due("P6 below", x.type(31), -1);
        Due.due("P6 above", x.type(127), -1);
        Due.due("P6 least", x.type(32), 1);
        Due.due("P6 most", x.type(126), 2);
        for (int i = 3; i <= 90; i++) {
            Due.due("P6 letter", x.type(32), i);
        }
        Due.due("P6 full", x.type(32), -3);
        Due.due("P6 bad ahead of full", x.type(10), -1);
        Due.due("P6 fault behind a blank", x.rock(), -21);
        Due.due("P6 empty then", x.type(32), 1);
        Due.due("P6 fault at the end", x.rock(), -21);

        // A rock with blanks up to the 90th letter.
        String text = " 9 . 1 / 2 , 3 . 4 ; p 12 > 1 , n 3";
        StringBuilder wide = new StringBuilder(text);
        while (wide.length() < 90) {
            wide.append(' ');
        }
        Due.due("P6 ninety letters are a rock", Due.rock(x, wide.toString()), 2);
    }

    private static void rocks() {
        ErasingMonks x = Due.on("9.1;p9>0,n9>0");
        x.seed(77);
        x.days(3);
        Due.due("P7 image", x.image(), 1);
        Due.due("P16 foretold ahead of a rock", x.dark(0, 9), 0);
        Due.due("P7 marks", Due.rock(x, "60.9/60,0.1/0,00.5/07;p99>0,n0>2,s05,t6>1,a30"), 3);
        int[][] marks = {{60, 9, 60}, {0, 1, 0}, {0, 5, 7}};
        for (int m = 0; m < 3; m++) {
            for (int what = 0; what < 3; what++) {
                Due.due("P7 mark " + m + " " + what, x.of(m, what), marks[m][what]);
            }
            Due.due("P7 no wool", x.of(m, 3), 0);
        }
        int[][] monks = {{0, 99, 0}, {1, 0, 2}, {2, 5, -4}, {3, 6, 1}, {4, 30, -4}};
        for (int m = 0; m < 5; m++) {
            for (int what = 0; what < 3; what++) {
                Due.due("P7 monk " + m + " " + what, x.at(m, what), monks[m][what]);
            }
        }
        Due.due("P7 day", x.count(2), 0);
        Due.due("P7 crumbs", x.count(3), 0);
        Due.due("P7 nothing to be undone", x.count(8), 0);
        Due.due("P7 the draw stays", x.seed(1), 77);
        Due.due("P7 the image stays", x.restore(), 1);
        Due.due("P7 as it was", x.count(1), 2);

        x = Due.on("9.1;p9>0");
        x.days(2);
        Due.due("P7 a fault", Due.rock(x, "9.1;p9>1"), -27);
        Due.due("P7 all else stays", x.count(8), 2);
        Due.due("P7 all else stays", x.count(2), 2);
        Due.due("P7 all else stays", x.of(0, 0), 1);
        Due.due("P7 all else stays", x.at(0, 2), 0);
        Due.due("P7 six marks, five monks",
            Due.rock(x, "1.1,2.2,3.3,4.4,5.5,6.6;p1>5,n2>4,s3>3,t4>2,a5>1"), 6);
        Due.due("P7 no monks is a rock", Due.rock(x, "1.1"), 1);
        Due.due("P7 nobody", x.count(1), 0);
    }

    private static void faults() {
        ErasingMonks x = new ErasingMonks();
        Object[][] rows = {
            {"", 0}, {"   ", 3}, {"x", 0}, {"  x", 2}, {".", 0}, {"9", 1}, {"9 ", 2}, {"61", 0}, {" 99.1", 1},
            {"060.1", 2}, {"6 0.1", 2}, {"610.1", 0}, {"9,", 1}, {"9.", 2}, {"9. ", 3}, {"9.0", 2}, {"9.a", 2},
            {"9.12", 3}, {"9.1 2", 4}, {"9.1/", 4}, {"9.1/61", 4}, {"9.1/ 61", 5}, {"9.1/123", 6}, {"9.1/612", 4}, {"9.1/012", 6},
            {"9.1/1/1", 5}, {"9.1,", 4}, {"9.1,,", 4}, {"9.1;", 4}, {"9.1; ", 5}, {"9.1;q", 4}, {"9.1;P1", 4},
            {"9.1;p", 5}, {"9.1;p>", 5}, {"9.1;p123", 7}, {"9.1;p1 2", 7}, {"9.1;p12>", 8}, {"9.1;p12>1", 8},
            {"9.1;p12>00", 9}, {"9.1;p12>0>", 9}, {"9.1;p12>0;", 9}, {"9.1;p12,", 8}, {"9.1;p12 n1", 8},
            {"9.1;p12>0,n9> 4", 14}, {"9.1;12", 4}, {"9.1:p1", 3}, {"-1.1", 0}, {"9.1/-1", 4},
            {"1.1,1.1,1.1,1.1,1.1,1.1,1.1", 23}, {"1.1,1.1,1.1,1.1,1.1,1.1 , ", 24},
            {"1.1;p1,p1,p1,p1,p1,p1", 18}, {"1.1;p1,p1,p1,p1,p1 ,", 19}, {"1.1;p1>~", 7}};
        for (Object[] row : rows) {
            Due.due("P7 fault of '" + row[0] + "'", Due.rock(x, (String) row[0]), -20 - (Integer) row[1]);
            Due.due("P7 nobody", x.count(0), 0);
        }
    }

    private static void counts() {
        ErasingMonks x = Due.on("9.1/20,4.2,0.3,56.1;p9>1,n40>0,s99>3");
        x.days(7);
        // PLAIN: 1 rub of 2. NOVICE: 9 3 0->20 14 8 2 0: 6 rubs of 1. STIFF: 7 rubs of 1, torn and gone.
        int crumbs = 2 + 6 + 7;
        int[] due = {4, 3, 7, crumbs, 1 | 2 | 4 | 8, 8, 0, 9 + 40 + 99 - crumbs, 7};
        for (int what = 0; what < due.length; what++) {
            Due.due("P8 count(" + what + ")", x.count(what), due[what]);
        }
        Due.due("P8 bad", x.count(9), -1);
        Due.due("P8 bad", x.count(-1), -1);
        x.days(5);
        Due.due("P8 eight are known", x.count(8), 8);
        x = Due.on("9.1/20,4.2/60");
        Due.due("P8 dark, not what is under", x.count(6), 13);
    }
}
