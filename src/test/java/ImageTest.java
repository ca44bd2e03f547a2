/** Promises 26 and 27: image, restore. */
public final class ImageTest {
    public static void main(String[] args) {
        ErasingMonks x = Due.on("50.3/9,40.2;p90>0,s9");
        Due.due("P27 none", x.restore(), -4);
        x.seed(42);
        x.days(2);
        x.send(1, 1);
        x.sheet(0, 2, 5);
        Due.due("P26 kept", x.image(), 1);

        x.days(12);
        x.seed(7);
        x.mark(1, 1, 1);
        x.monk(4, 4);
        x.sheet(1, 0, 3);
        x.drop(0);
        x.type('9');
        Due.due("P27 restored", x.restore(), 1);
        Due.due("P27 marks", x.count(0), 2);
        Due.due("P27 monks", x.count(1), 2);
        Due.due("P27 day", x.count(2), 2);
        Due.due("P27 crumbs", x.count(3), 6);
        Due.due("P27 dark", x.of(0, 0), 42);
        Due.due("P27 wool", x.of(0, 3), 2);
        Due.due("P27 size", x.at(0, 1), 84);
        Due.due("P27 sent", x.at(1, 2), 1);
        Due.due("P27 the draw", x.seed(42), 42);
        Due.due("P27 sheets stay as they are", x.drop(0), -11);
        Due.due("P27 sheets stay as they are", x.drop(1), 3);
        Due.due("P27 the tape stays as it is", x.type('9'), 2);
        Due.due("P27 what may be undone", x.count(8), 3);
        Due.due("P27 undone", x.undo(), 2);
        Due.due("P27 as ahead of it", x.at(1, 2), -4);
        Due.due("P27 undone", x.undo(), 1);
        Due.due("P27 undone", x.undo(), 0);
        Due.due("P27 as ahead of all", x.of(0, 0), 50);

        Due.due("P27 the image stands still", x.restore(), 1);
        Due.due("P27 day", x.count(2), 2);
        Due.due("P27 what may be undone", x.count(8), 3);
        x.days(20);
        Due.due("P27 again", x.restore(), 1);
        Due.due("P27 undone", x.undo(), 2);
        Due.due("P27 undone", x.undo(), 1);
        Due.due("P27 the known are those of then", x.of(0, 0), 46);

        Due.due("P26 a later image", x.image(), 1);
        x.days(3);
        Due.due("P27 the later one", x.restore(), 1);
        Due.due("P27 day", x.count(2), 1);
        Due.due("P27 what may be undone", x.count(8), 1);
        Due.due("P7 a fault of 99", x.rock(), -20);
        Due.due("P7 a rock", Due.rock(x, "1.1"), 1);
        Due.due("P27 behind a rock", x.restore(), 1);
        Due.due("P27 what may be undone", x.count(8), 1);

        ErasingMonks fresh = new ErasingMonks();
        Due.due("P26 nobody", fresh.image(), 1);
        Due.rock(fresh, "1.1;p1");
        Due.due("P27 nobody", fresh.restore(), 1);
        Due.due("P27 no marks", fresh.count(0), 0);
        Due.due("P27 no monks", fresh.count(1), 0);
        Due.end();
    }
}
