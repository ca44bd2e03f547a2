import java.math.BigInteger;
import java.util.ArrayDeque;
import java.util.ArrayList;
import java.util.Deque;
import java.util.List;

/** The document written a second time, by trying everything out; for tests alone. */
final class PlainMonks {
    static class Plain {
        int pale(int size) {
            return 4;
        }

        int wear(int hard) {
            return hard;
        }

        int wool() {
            return 1;
        }
    }

    static class Novice extends Plain {
        @Override
        int pale(int size) {
            return size >= 30 ? 6 : super.pale(size);
        }
    }

    static class Stiff extends Plain {
        @Override
        int pale(int size) {
            return 2 * super.pale(size);
        }

        @Override
        int wool() {
            return 3;
        }
    }

    static class Saint extends Novice {
        @Override
        int wear(int hard) {
            return hard / 2 + 1;
        }
    }

    static class Abbot extends Stiff {
        @Override
        int wear(int hard) {
            return 1;
        }

        @Override
        int wool() {
            return 2;
        }
    }

    static final Plain[] KINDS = {new Plain(), new Novice(), new Stiff(), new Saint(), new Abbot()};

    record Mark(int dark, int hard, int under, int wool) {
        boolean gone() {
            return dark == 0 && under == 0;
        }

        boolean torn() {
            return wool == 20;
        }
    }

    record Monk(int kind, int size, int sent) {
    }

    static final class World {
        List<Mark> marks = new ArrayList<>();
        List<Monk> monks = new ArrayList<>();
        int day;
        int crumbs;
        int draw = 1;

        World twin() {
            World t = new World();
            t.marks = new ArrayList<>(marks);
            t.monks = new ArrayList<>(monks);
            t.day = day;
            t.crumbs = crumbs;
            t.draw = draw;
            return t;
        }

        boolean rub(int monk, int mark) {
            Monk who = monks.get(monk);
            Mark what = marks.get(mark);
            if (who.size() == 0 || what.gone() || what.torn()) {
                return false;
            }
            Plain kind = KINDS[who.kind()];
            int dark = Math.max(0, what.dark() - kind.pale(who.size()));
            int size = Math.max(0, who.size() - kind.wear(what.hard()));
            int wool = Math.min(20, what.wool() + kind.wool());
            int under = what.under();
            if (dark == 0 && wool < 20) {
                dark = under;
                under = 0;
            }
            crumbs += who.size() - size;
            marks.set(mark, new Mark(dark, what.hard(), under, wool));
            monks.set(monk, new Monk(who.kind(), size, who.sent()));
            return true;
        }

        void pass(int ill) {
            for (int i = 0; i < monks.size(); i++) {
                if ((ill & 1 << i) == 0 && monks.get(i).sent() != -4) {
                    rub(i, monks.get(i).sent());
                }
            }
            day++;
        }

        World after(int n) {
            World t = twin();
            for (int i = 0; i < n; i++) {
                t.pass(0);
            }
            return t;
        }

        int goneSet() {
            int set = 0;
            for (int i = 0; i < marks.size(); i++) {
                set += marks.get(i).gone() ? 1 << i : 0;
            }
            return set;
        }

        int tornSet() {
            int set = 0;
            for (int i = 0; i < marks.size(); i++) {
                set += marks.get(i).torn() ? 1 << i : 0;
            }
            return set;
        }

        void sendTo(int monk, int mark) {
            Monk who = monks.get(monk);
            monks.set(monk, new Monk(who.kind(), who.size(), mark));
        }
    }

    World now = new World();
    Deque<World> past = new ArrayDeque<>();
    World imageNow;
    List<World> imagePast;
    StringBuilder tape = new StringBuilder();
    Object[] sheets = new Object[4];

    private boolean noMark(int mark) {
        return mark < 0 || mark >= now.marks.size();
    }

    private boolean noMonk(int monk) {
        return monk < 0 || monk >= now.monks.size();
    }

    private static boolean out(int v, int least, int most) {
        return v < least || v > most;
    }

    private void keep() {
        past.addLast(now.twin());
        if (past.size() > 8) {
            past.removeFirst();
        }
    }

    int mark(int dark, int hard, int under) {
        if (out(dark, 0, 60) || out(hard, 1, 9) || out(under, 0, 60)) {
            return -1;
        }
        if (now.marks.size() == 6) {
            return -3;
        }
        past.clear();
        now.marks.add(new Mark(dark, hard, under, 0));
        return now.marks.size() - 1;
    }

    int monk(int kind, int size) {
        if (out(kind, 0, 4) || out(size, 0, 99)) {
            return -1;
        }
        if (now.monks.size() == 5) {
            return -3;
        }
        past.clear();
        now.monks.add(new Monk(kind, size, -4));
        return now.monks.size() - 1;
    }

    int of(int mark, int what) {
        if (noMark(mark) || out(what, 0, 6)) {
            return -1;
        }
        Mark m = now.marks.get(mark);
        int set = 0;
        for (int i = 0; i < now.monks.size(); i++) {
            set += now.monks.get(i).sent() == mark ? 1 << i : 0;
        }
        return new int[] {m.dark(), m.hard(), m.under(), m.wool(), m.gone() ? 1 : 0, m.torn() ? 1 : 0, set}[what];
    }

    int at(int monk, int what) {
        if (noMonk(monk) || out(what, 0, 2)) {
            return -1;
        }
        Monk m = now.monks.get(monk);
        return new int[] {m.kind(), m.size(), m.sent()}[what];
    }

    int type(int letter) {
        if (out(letter, 32, 126)) {
            return -1;
        }
        if (tape.length() == 90) {
            return -3;
        }
        tape.append((char) letter);
        return tape.length();
    }

    /** Reads by states, a letter at a time, each number checked as soon as it has ended. */
    int rock() {
        String text = tape.toString();
        tape.setLength(0);
        World w = new World();
        w.draw = now.draw;
        String state = "dark";
        int number = -1;
        int digits = 0;
        int start = 0;
        int dark = 0;
        int hard = 0;
        int kind = 0;
        int size = 0;
        for (int i = 0; i <= text.length(); i++) {
            char c = i < text.length() ? text.charAt(i) : '\n';
            boolean isNumber = state.equals("dark") || state.equals("under") || state.equals("size");
            if (isNumber && Character.isDigit(c) && digits < 2) {
                if (digits == 0) {
                    start = i;
                    number = 0;
                }
                number = 10 * number + Character.digit(c, 10);
                digits++;
                continue;
            }
            if (isNumber && digits > 0) {
                if (!state.equals("size") && number > 60) {
                    return -20 - start;
                }
                if (state.equals("dark")) {
                    dark = number;
                    state = "dot";
                } else if (state.equals("under")) {
                    w.marks.add(new Mark(dark, hard, number, 0));
                    state = "behind under";
                } else {
                    size = number;
                    state = "behind size";
                }
                digits = 0;
            }
            if (c == ' ') {
                continue;
            }
            switch (state) {
                case "dot":
                    if (c != '.') {
                        return -20 - i;
                    }
                    state = "hard";
                    break;
                case "hard":
                    if (c < '1' || c > '9') {
                        return -20 - i;
                    }
                    hard = c - '0';
                    state = "behind hard";
                    break;
                case "behind hard":
                    if (c == '/') {
                        state = "under";
                        break;
                    }
                    w.marks.add(new Mark(dark, hard, 0, 0));
                    state = behindMark(w, c);
                    break;
                case "behind under":
                    state = behindMark(w, c);
                    break;
                case "kind":
                    kind = "pnsta".indexOf(c);
                    if (kind < 0) {
                        return -20 - i;
                    }
                    state = "size";
                    break;
                case "behind size":
                    if (c == '>') {
                        state = "where";
                        break;
                    }
                    w.monks.add(new Monk(kind, size, -4));
                    state = behindMonk(w, c);
                    break;
                case "where":
                    if (c < '0' || c - '0' >= w.marks.size()) {
                        return -20 - i;
                    }
                    w.monks.add(new Monk(kind, size, c - '0'));
                    state = "behind where";
                    break;
                case "behind where":
                    state = behindMonk(w, c);
                    break;
                default:
                    return -20 - i;
            }
            if (state == null) {
                return -20 - i;
            }
        }
        now = w;
        past.clear();
        return w.marks.size();
    }

    private static String behindMark(World w, char c) {
        if (c == ',' && w.marks.size() < 6) {
            return "dark";
        }
        return c == ';' ? "kind" : c == '\n' ? "end" : null;
    }

    private static String behindMonk(World w, char c) {
        if (c == ',' && w.monks.size() < 5) {
            return "kind";
        }
        return c == '\n' ? "end" : null;
    }

    int count(int what) {
        switch (what) {
            case 0: return now.marks.size();
            case 1: return now.monks.size();
            case 2: return now.day;
            case 3: return now.crumbs;
            case 4: return now.goneSet();
            case 5: return now.tornSet();
            case 6: return now.marks.stream().mapToInt(Mark::dark).sum();
            case 7: return now.monks.stream().mapToInt(Monk::size).sum();
            case 8: return past.size();
            default: return -1;
        }
    }

    int days(int n) {
        if (out(n, 1, 40)) {
            return -1;
        }
        if (now.day + n > 9999) {
            return -3;
        }
        for (int i = 0; i < n; i++) {
            keep();
            now.pass(0);
        }
        return now.goneSet();
    }

    int send(int monk, int mark) {
        if (noMonk(monk) || mark != -4 && noMark(mark)) {
            return -1;
        }
        int was = now.monks.get(monk).sent();
        if (was == mark) {
            return -2;
        }
        keep();
        now.sendTo(monk, mark);
        return was;
    }

    int press(int monk, int mark, int n) {
        if (noMonk(monk) || noMark(mark) || out(n, 1, 60)) {
            return -1;
        }
        World ahead = now.twin();
        int often = 0;
        while (often < n && now.rub(monk, mark)) {
            often++;
        }
        if (often == 0) {
            return -2;
        }
        World then = now;
        now = ahead;
        keep();
        now = then;
        return often;
    }

    int ink(int mark, int n) {
        if (noMark(mark) || out(n, 1, 60)) {
            return -1;
        }
        Mark m = now.marks.get(mark);
        if (m.torn()) {
            return -2;
        }
        keep();
        int dark = Math.min(60, m.dark() + n);
        now.marks.set(mark, new Mark(dark, m.hard(), m.under(), m.wool()));
        return dark;
    }

    int drift(int n) {
        if (out(n, 1, 40)) {
            return -1;
        }
        if (now.day + n > 9999) {
            return -3;
        }
        for (int i = 0; i < n; i++) {
            keep();
            now.draw = BigInteger.valueOf(now.draw).multiply(BigInteger.valueOf(1103515245))
                .add(BigInteger.valueOf(12345)).mod(BigInteger.ONE.shiftLeft(31)).intValueExact();
            if (!now.monks.isEmpty() && !now.marks.isEmpty()) {
                now.sendTo(now.draw / 65536 % now.monks.size(), now.draw / 128 % now.marks.size());
            }
            now.pass(0);
        }
        return now.goneSet();
    }

    int undo() {
        if (past.isEmpty()) {
            return -4;
        }
        now = past.removeLast();
        return past.size();
    }

    int seed(int v) {
        if (v < 0) {
            return -1;
        }
        int was = now.draw;
        now.draw = v;
        return was;
    }

    int dark(int mark, int n) {
        return noMark(mark) || out(n, 0, 60) ? -1 : now.after(n).marks.get(mark).dark();
    }

    int size(int monk, int n) {
        return noMonk(monk) || out(n, 0, 60) ? -1 : now.after(n).monks.get(monk).size();
    }

    int then(int n, int what) {
        if (out(n, 0, 60) || out(what, 0, 2)) {
            return -1;
        }
        World w = now.after(n);
        return what == 0 ? w.goneSet() : what == 1 ? w.tornSet() : w.crumbs;
    }

    int gone(int mark) {
        if (noMark(mark)) {
            return -1;
        }
        for (int n = 0; n <= 60; n++) {
            if (now.after(n).marks.get(mark).gone()) {
                return n;
            }
        }
        return -4;
    }

    int needs(int monk, int mark) {
        if (noMonk(monk) || noMark(mark)) {
            return -1;
        }
        World w = now.twin();
        for (int n = 0; n <= 60; n++) {
            if (w.marks.get(mark).gone()) {
                return n;
            }
            w.rub(monk, mark);
        }
        return -4;
    }

    int sends(int n, int k) {
        if (out(n, 0, 30) || k < -1) {
            return -1;
        }
        int marks = now.marks.size();
        int monks = now.monks.size();
        if (marks == 0) {
            return k == -1 ? 0 : -4;
        }
        int most = -1;
        int[] best = null;
        int all = (int) Math.round(Math.pow(marks, monks));
        for (int plan = 0; plan < all; plan++) {
            int[] where = new int[monks];
            int rest = plan;
            for (int i = monks - 1; i >= 0; i--) {
                where[i] = rest % marks;
                rest /= marks;
            }
            World w = now.twin();
            for (int i = 0; i < monks; i++) {
                w.sendTo(i, where[i]);
            }
            int gone = Integer.bitCount(w.after(n).goneSet());
            if (gone > most) {
                most = gone;
                best = where;
            }
        }
        return k == -1 ? most : k < monks ? best[k] : -4;
    }

    int round(int monk, int k) {
        if (noMonk(monk) || k < -1) {
            return -1;
        }
        List<Integer> open = new ArrayList<>();
        for (int i = 0; i < now.marks.size(); i++) {
            if (!now.marks.get(i).gone() && !now.marks.get(i).torn()) {
                open.add(i);
            }
        }
        List<List<Integer>> orders = new ArrayList<>();
        permute(open, new ArrayList<>(), orders);
        int most = -1;
        List<Integer> best = null;
        for (List<Integer> order : orders) {
            World w = now.twin();
            for (int mark : order) {
                while (w.rub(monk, mark)) {
                    continue;
                }
            }
            int gone = Integer.bitCount(w.goneSet());
            if (gone > most) {
                most = gone;
                best = order;
            }
        }
        return k == -1 ? most : k < best.size() ? best.get(k) : -4;
    }

    private static void permute(List<Integer> left, List<Integer> order, List<List<Integer>> orders) {
        if (left.isEmpty()) {
            orders.add(new ArrayList<>(order));
        }
        for (Integer next : left) {
            List<Integer> rest = new ArrayList<>(left);
            rest.remove(next);
            order.add(next);
            permute(rest, order, orders);
            order.remove(order.size() - 1);
        }
    }

    int pair(int mark, int what) {
        if (noMark(mark) || out(what, 0, 2)) {
            return -1;
        }
        // By rubs and pair in their order, so that only fewer crumbs are better.
        int[] best = null;
        for (int rubs = 0; rubs <= 60; rubs++) {
            for (int code = 0; code < 50; code++) {
                int i = code / 10;
                int j = code % 10;
                if (i == j || noMonk(i) || noMonk(j)) {
                    continue;
                }
                World w = now.twin();
                boolean could = true;
                for (int r = 0; r < rubs; r++) {
                    could &= w.rub(i, mark);
                }
                for (int r = rubs; r < 60 && w.rub(j, mark); r++) {
                    continue;
                }
                int crumbs = w.crumbs - now.crumbs;
                if (could && w.marks.get(mark).gone() && (best == null || crumbs < best[0])) {
                    best = new int[] {crumbs, code, rubs};
                }
            }
        }
        return best == null ? -4 : best[what];
    }

    int small(int monk, int mark) {
        if (noMonk(monk) || noMark(mark)) {
            return -1;
        }
        for (int size = 0; size < 100; size++) {
            World w = now.twin();
            w.monks.set(monk, new Monk(w.monks.get(monk).kind(), size, -4));
            while (w.rub(monk, mark)) {
                continue;
            }
            if (w.marks.get(mark).gone()) {
                return size;
            }
        }
        return -4;
    }

    int slip(int m, int c, int what) {
        if (out(m, 0, 6) || out(c, 0, 10) || out(what, 0, 1)) {
            return -1;
        }
        long[] above = new long[1];
        int sent = (int) now.monks.stream().filter(k -> k.sent() != -4).count();
        slip(0, 0, 1, m, c, above);
        long below = Math.round(Math.pow(10, sent));
        long g = BigInteger.valueOf(above[0]).gcd(BigInteger.valueOf(below)).longValue();
        return (int) ((what == 0 ? above[0] : below) / g);
    }

    private void slip(int monk, int ill, long weight, int m, int c, long[] above) {
        if (monk == now.monks.size()) {
            World w = now.twin();
            w.pass(ill);
            above[0] += Integer.bitCount(w.goneSet()) >= m ? weight : 0;
        } else if (now.monks.get(monk).sent() == -4) {
            slip(monk + 1, ill, weight, m, c, above);
        } else {
            slip(monk + 1, ill | 1 << monk, weight * c, m, c, above);
            slip(monk + 1, ill, weight * (10 - c), m, c, above);
        }
    }

    int image() {
        imageNow = now.twin();
        imagePast = new ArrayList<>();
        for (World w : past) {
            imagePast.add(w.twin());
        }
        return 1;
    }

    int restore() {
        if (imageNow == null) {
            return -4;
        }
        now = imageNow.twin();
        past.clear();
        for (World w : imagePast) {
            past.addLast(w.twin());
        }
        return 1;
    }

    private static int laneOf(Object row) {
        return row instanceof byte[] ? 0 : row instanceof short[] ? 1 : row instanceof int[] ? 2 : 3;
    }

    private int find(int sheet, int lane, long i, long n) {
        Object row = sheets[sheet];
        if (row == null) {
            return -11;
        }
        if (laneOf(row) != lane) {
            return -12;
        }
        return i < 0 || n < 0 || i + n > java.lang.reflect.Array.getLength(row) ? -13 : 0;
    }

    private long get(int sheet, int i) {
        return java.lang.reflect.Array.getLong(sheets[sheet], i);
    }

    private void set(int sheet, int i, long v) {
        Object row = sheets[sheet];
        if (row instanceof byte[] b) {
            b[i] = (byte) v;
        } else if (row instanceof short[] s) {
            s[i] = (short) v;
        } else if (row instanceof int[] n) {
            n[i] = (int) v;
        } else if (row instanceof long[] l) {
            l[i] = v;
        }
    }

    int worn(int monk, int sheet, int lane, int i, int n, int what) {
        if (noMonk(monk) || out(sheet, 0, 3) || out(lane, 0, 3) || out(n, 1, 8) || out(what, 0, 1)) {
            return -1;
        }
        if (find(sheet, lane, i, n) != 0) {
            return find(sheet, lane, i, n);
        }
        Monk who = now.monks.get(monk);
        if (what == 1 && who.sent() == -4) {
            return -2;
        }
        int set = 0;
        for (int guess = what; guess < (what == 0 ? 5 : 10); guess++) {
            World w = now.twin();
            if (what == 0) {
                w.monks.set(monk, new Monk(guess, who.size(), who.sent()));
            } else {
                Mark m = now.marks.get(who.sent());
                w.marks.set(who.sent(), new Mark(m.dark(), guess, m.under(), m.wool()));
            }
            boolean so = true;
            for (int d = 1; d <= n; d++) {
                so &= w.after(d).monks.get(monk).size() == get(sheet, i + d - 1);
            }
            set += so ? 1 << guess : 0;
        }
        return set;
    }

    int swept(int n, int sheet, int lane, int i, int k) {
        if (out(n, 0, 99) || out(sheet, 0, 3) || out(lane, 0, 3) || out(k, 1, 5)) {
            return -1;
        }
        if (find(sheet, lane, i, k) != 0) {
            return find(sheet, lane, i, k);
        }
        for (int d = 0; d < k; d++) {
            if (get(sheet, i + d) < 1 || get(sheet, i + d) > 9) {
                return -2;
            }
        }
        return (int) (ways(n, sheet, i, k) % 1000003);
    }

    private long ways(int n, int sheet, int i, int k) {
        if (k == 0) {
            return n == 0 ? 1 : 0;
        }
        int hard = (int) get(sheet, i);
        long sum = 0;
        for (int rest = n; rest >= 0; rest -= hard) {
            sum += ways(rest, sheet, i + 1, k - 1);
        }
        return sum;
    }

    int film(int monk, int n, int sheet, int lane, int i) {
        if (noMonk(monk) || out(n, 1, 24) || out(sheet, 0, 3) || out(lane, 0, 3)) {
            return -1;
        }
        if (find(sheet, lane, i, n) != 0) {
            return find(sheet, lane, i, n);
        }
        for (int d = 1; d <= n; d++) {
            set(sheet, i + d - 1, now.after(d).monks.get(monk).size());
        }
        return n;
    }

    int sheet(int sheet, int lane, int n) {
        if (out(sheet, 0, 3) || out(lane, 0, 3) || n > 24) {
            return -1;
        }
        if (n < 0) {
            return -14;
        }
        sheets[sheet] = lane == 0 ? new byte[n] : lane == 1 ? new short[n] : lane == 2 ? new int[n] : new long[n];
        return n;
    }

    int drop(int sheet) {
        if (out(sheet, 0, 3)) {
            return -1;
        }
        if (sheets[sheet] == null) {
            return -11;
        }
        int had = java.lang.reflect.Array.getLength(sheets[sheet]);
        sheets[sheet] = null;
        return had;
    }

    int item(int sheet, int lane, int i, long v) {
        if (out(sheet, 0, 3) || out(lane, 0, 3)) {
            return -1;
        }
        if (find(sheet, lane, i, 1) != 0) {
            return find(sheet, lane, i, 1);
        }
        set(sheet, i, v);
        return 1;
    }

    int copy(int from, int i, int to, int j, int n) {
        if (out(from, 0, 3) || out(to, 0, 3)) {
            return -1;
        }
        try {
            System.arraycopy(sheets[from], i, sheets[to], j, n);
        } catch (NullPointerException e) {
            return -11;
        } catch (ArrayStoreException e) {
            return -12;
        } catch (IndexOutOfBoundsException e) {
            return -13;
        }
        return n;
    }
}
