/**
 * A rock of marks and of the monks who rub them away: what is done day by day and
 * undone, what is foretold from now, and the sheets on which rows are kept.
 */
public final class ErasingMonks {
    public static final int BAD = -1, NOT = -2, FULL = -3, NONE = -4, NULL = -11, CAST = -12, INDEX = -13, SIZE = -14;

    private static final int MOST_MARKS = 6;
    private static final int MOST_MONKS = 5;
    private static final int DARKEST = 60;
    private static final int HARDEST = 9;
    private static final int LARGEST = 99;
    private static final int TORN_WOOL = 20;

    private static final int NOVICE = 1;
    private static final int STIFF = 2;
    private static final int SAINT = 3;
    private static final int ABBOT = 4;
    private static final int KINDS = 5;
    private static final String KIND_LETTERS = "pnsta";
    private static final int PLAIN_RUB = 4;
    private static final int CORNER_RUB = 6;
    private static final int CORNER_SIZE = 30;

    private static final int LAST_DAY = 9999;
    private static final int MOST_DAYS = 40;
    private static final int FORETOLD_DAYS = 60;
    private static final int SEND_DAYS = 30;
    private static final int MOST_RUBS = 60;
    private static final int MOST_KNOWN = 8;
    private static final int TEN = 10;

    private static final int TAPE_LENGTH = 90;
    private static final int TAPE_END = -1;
    private static final int FAULT = -20;

    private static final int SHEETS = 4;
    private static final int LANES = 4;
    private static final int MOST_ITEMS = 24;
    private static final int MOST_WORN = 8;
    private static final int MOST_SWEPT = 5;
    private static final int MOST_CRUMBS = 99;
    private static final int WAYS_MODULUS = 1000003;

    private final Rock now = new Rock();
    private final Known known = new Known();
    private final Rock imageRock = new Rock();
    private final Known imageKnown = new Known();
    private boolean imaged;
    private final Tape tape = new Tape();
    private final Sheet[] sheets = new Sheet[SHEETS];

    // Rows that the foretelling calls use again, so that no call makes new ones.
    private final Rock trial = new Rock();
    private final SendPlan sendPlan = new SendPlan();
    private final RoundPlan roundPlan = new RoundPlan();
    private final PairPlan pairPlan = new PairPlan();
    private final int[] ways = new int[MOST_CRUMBS + 1];

    public ErasingMonks() {
        for (int sheet = 0; sheet < SHEETS; sheet++) {
            sheets[sheet] = new Sheet();
        }
    }

    // ---- 1 marks, monks

    public int mark(int dark, int hard, int under) {
        if (!within(dark, 0, DARKEST) || !within(hard, 1, HARDEST) || !within(under, 0, DARKEST)) {
            return BAD;
        }
        if (now.marks >= MOST_MARKS) {
            return FULL;
        }
        known.forget();
        return now.addMark(dark, hard, under);
    }

    public int monk(int kind, int size) {
        if (!within(kind, 0, KINDS - 1) || !within(size, 0, LARGEST)) {
            return BAD;
        }
        if (now.monks >= MOST_MONKS) {
            return FULL;
        }
        known.forget();
        return now.addMonk(kind, size, NONE);
    }

    public int of(int mark, int what) {
        if (!hasMark(mark)) {
            return BAD;
        }
        switch (what) {
            case 0:
                return now.dark[mark];
            case 1:
                return now.hard[mark];
            case 2:
                return now.under[mark];
            case 3:
                return now.wool[mark];
            case 4:
                return now.isGone(mark) ? 1 : 0;
            case 5:
                return now.isTorn(mark) ? 1 : 0;
            case 6:
                return now.crewOf(mark);
            default:
                return BAD;
        }
    }

    public int at(int monk, int what) {
        if (!hasMonk(monk)) {
            return BAD;
        }
        switch (what) {
            case 0:
                return now.kind[monk];
            case 1:
                return now.size[monk];
            case 2:
                return now.sent[monk];
            default:
                return BAD;
        }
    }

    public int type(int letter) {
        if (!within(letter, 32, 126)) {
            return BAD;
        }
        if (tape.length >= TAPE_LENGTH) {
            return FULL;
        }
        return tape.put(letter);
    }

    public int rock() {
        int fault = tape.readRock(trial);
        tape.length = 0;
        if (fault >= 0) {
            return FAULT - fault;
        }
        trial.draw = now.draw;
        now.become(trial);
        known.forget();
        return now.marks;
    }

    public int count(int what) {
        switch (what) {
            case 0:
                return now.marks;
            case 1:
                return now.monks;
            case 2:
                return now.day;
            case 3:
                return now.crumbs;
            case 4:
                return now.goneSet();
            case 5:
                return now.tornSet();
            case 6:
                return now.darkTogether();
            case 7:
                return now.sizeTogether();
            case 8:
                return known.length;
            default:
                return BAD;
        }
    }

    // ---- what is done

    public int days(int n) {
        return liveThrough(n, false);
    }

    public int send(int monk, int mark) {
        if (!hasMonk(monk) || (mark != NONE && !hasMark(mark))) {
            return BAD;
        }
        int was = now.sent[monk];
        if (was == mark) {
            return NOT;
        }
        known.keep(now);
        now.sent[monk] = mark;
        return was;
    }

    public int press(int monk, int mark, int n) {
        if (!hasMonk(monk) || !hasMark(mark) || !within(n, 1, MOST_RUBS)) {
            return BAD;
        }
        if (!now.canRub(monk, mark)) {
            return NOT;
        }
        known.keep(now);
        return now.rubTimes(monk, mark, n);
    }

    public int ink(int mark, int n) {
        if (!hasMark(mark) || !within(n, 1, DARKEST)) {
            return BAD;
        }
        if (now.isTorn(mark)) {
            return NOT;
        }
        known.keep(now);
        now.dark[mark] = Math.min(DARKEST, now.dark[mark] + n);
        return now.dark[mark];
    }

    public int drift(int n) {
        return liveThrough(n, true);
    }

    public int undo() {
        if (known.length < 1) {
            return NONE;
        }
        known.takeBack(now);
        return known.length;
    }

    public int seed(int v) {
        if (v < 0) {
            return BAD;
        }
        int was = now.draw;
        now.draw = v;
        return was;
    }

    // ---- 2 foretold

    public int dark(int mark, int n) {
        if (!hasMark(mark) || !within(n, 0, FORETOLD_DAYS)) {
            return BAD;
        }
        foretell(n);
        return trial.dark[mark];
    }

    public int size(int monk, int n) {
        if (!hasMonk(monk) || !within(n, 0, FORETOLD_DAYS)) {
            return BAD;
        }
        foretell(n);
        return trial.size[monk];
    }

    public int then(int n, int what) {
        if (!within(n, 0, FORETOLD_DAYS) || !within(what, 0, 2)) {
            return BAD;
        }
        foretell(n);
        switch (what) {
            case 0:
                return trial.goneSet();
            case 1:
                return trial.tornSet();
            default:
                return trial.crumbs;
        }
    }

    public int gone(int mark) {
        if (!hasMark(mark)) {
            return BAD;
        }
        trial.become(now);
        for (int day = 0; day <= FORETOLD_DAYS; day++) {
            if (trial.isGone(mark)) {
                return day;
            }
            trial.passDay(0);
        }
        return NONE;
    }

    public int needs(int monk, int mark) {
        if (!hasMonk(monk) || !hasMark(mark)) {
            return BAD;
        }
        trial.become(now);
        int rubs = trial.rubTimes(monk, mark, MOST_RUBS);
        return trial.isGone(mark) ? rubs : NONE;
    }

    public int sends(int n, int k) {
        if (!within(n, 0, SEND_DAYS) || k < -1) {
            return BAD;
        }
        if (now.marks < 1) {
            return k < 0 ? 0 : NONE;
        }
        if (k >= now.monks) {
            return NONE;
        }
        sendPlan.plan(now, trial, n);
        return k < 0 ? sendPlan.most : sendPlan.best[k];
    }

    public int round(int monk, int k) {
        if (!hasMonk(monk) || k < -1) {
            return BAD;
        }
        if (k >= now.openMarks()) {
            return NONE;
        }
        roundPlan.plan(now, trial, monk);
        return k < 0 ? roundPlan.most : roundPlan.best[k];
    }

    public int pair(int mark, int what) {
        if (!hasMark(mark) || !within(what, 0, 2)) {
            return BAD;
        }
        pairPlan.plan(now, trial, mark);
        if (!pairPlan.found) {
            return NONE;
        }
        switch (what) {
            case 0:
                return pairPlan.crumbs;
            case 1:
                return pairPlan.pair;
            default:
                return pairPlan.rubs;
        }
    }

    public int small(int monk, int mark) {
        if (!hasMonk(monk) || !hasMark(mark)) {
            return BAD;
        }
        trial.become(now);
        for (int size = 0; size <= LARGEST; size++) {
            trial.size[monk] = size;
            trial.rubTimes(monk, mark, MOST_RUBS);
            if (trial.isGone(mark)) {
                return size;
            }
            trial.markAsIn(now, mark);
        }
        return NONE;
    }

    public int slip(int m, int c, int what) {
        if (!within(m, 0, MOST_MARKS) || !within(c, 0, TEN) || !within(what, 0, 1)) {
            return BAD;
        }
        int above = 0;
        int sets = 1 << now.monks;
        for (int ill = 0; ill < sets; ill++) {
            above += chanceOf(ill, m, c);
        }
        int below = power(TEN, Integer.bitCount(now.sentSet()));
        int shared = Math.max(1, commonDivisor(above, below));
        return what == 0 ? above / shared : below / shared;
    }

    public int image() {
        imageRock.become(now);
        imageKnown.become(known);
        imaged = true;
        return 1;
    }

    public int restore() {
        if (!imaged) {
            return NONE;
        }
        now.become(imageRock);
        known.become(imageKnown);
        return 1;
    }

    // ---- 3 sheets 0 .. 3

    public int worn(int monk, int sheet, int lane, int i, int n, int what) {
        if (!hasMonk(monk) || !isSheet(sheet, lane) || !within(n, 1, MOST_WORN) || !within(what, 0, 1)) {
            return BAD;
        }
        int found = lookAt(sheet, lane, i, n);
        if (found < 0) {
            return found;
        }
        if (what == 0) {
            return kindsOfRow(monk, sheets[sheet], i, n);
        }
        return now.sent[monk] < 0 ? NOT : hardsOfRow(monk, sheets[sheet], i, n);
    }

    public int swept(int n, int sheet, int lane, int i, int k) {
        if (!within(n, 0, MOST_CRUMBS) || !isSheet(sheet, lane) || !within(k, 1, MOST_SWEPT)) {
            return BAD;
        }
        int found = lookAt(sheet, lane, i, k);
        if (found < 0) {
            return found;
        }
        long[] items = sheets[sheet].items;
        for (int each = i; each < i + k; each++) {
            if (items[each] < 1 || items[each] > HARDEST) {
                return NOT;
            }
        }
        return waysTogether(n, items, i, k);
    }

    public int film(int monk, int n, int sheet, int lane, int i) {
        if (!hasMonk(monk) || !within(n, 1, MOST_ITEMS) || !isSheet(sheet, lane)) {
            return BAD;
        }
        int found = lookAt(sheet, lane, i, n);
        if (found < 0) {
            return found;
        }
        trial.become(now);
        for (int day = 0; day < n; day++) {
            trial.passDay(0);
            sheets[sheet].write(i + day, trial.size[monk]);
        }
        return n;
    }

    public int sheet(int sheet, int lane, int n) {
        if (!isSheet(sheet, lane) || n > MOST_ITEMS) {
            return BAD;
        }
        if (n < 0) {
            return SIZE;
        }
        sheets[sheet].hold(lane, n);
        return n;
    }

    public int drop(int sheet) {
        if (!within(sheet, 0, SHEETS - 1)) {
            return BAD;
        }
        Sheet row = sheets[sheet];
        if (!row.held) {
            return NULL;
        }
        row.held = false;
        return row.length;
    }

    public int item(int sheet, int lane, int i, long v) {
        if (!isSheet(sheet, lane)) {
            return BAD;
        }
        int found = lookAt(sheet, lane, i, 1);
        if (found < 0) {
            return found;
        }
        sheets[sheet].write(i, v);
        return 1;
    }

    public int copy(int from, int i, int to, int j, int n) {
        if (!within(from, 0, SHEETS - 1) || !within(to, 0, SHEETS - 1)) {
            return BAD;
        }
        Sheet source = sheets[from];
        Sheet target = sheets[to];
        if (!source.held || !target.held) {
            return NULL;
        }
        if (source.lane != target.lane) {
            return CAST;
        }
        if (!source.spans(i, n) || !target.spans(j, n)) {
            return INDEX;
        }
        System.arraycopy(source.items, i, target.items, j, n);
        return n;
    }

    // ---- what the calls share

    private static boolean within(int value, int least, int most) {
        return value >= least && value <= most;
    }

    private boolean hasMark(int mark) {
        return mark >= 0 && mark < now.marks;
    }

    private boolean hasMonk(int monk) {
        return monk >= 0 && monk < now.monks;
    }

    private static boolean isSheet(int sheet, int lane) {
        return within(sheet, 0, SHEETS - 1) && within(lane, 0, LANES - 1);
    }

    /** What the machine would find in n items of a sheet from i on: NULL, CAST, INDEX; else 0. */
    private int lookAt(int sheet, int lane, int i, int n) {
        Sheet row = sheets[sheet];
        if (!row.held) {
            return NULL;
        }
        if (row.lane != lane) {
            return CAST;
        }
        return row.spans(i, n) ? 0 : INDEX;
    }

    /** n days, each by itself one that may be undone, with who is sent by a draw ahead of it. */
    private int liveThrough(int n, boolean drifting) {
        if (!within(n, 1, MOST_DAYS)) {
            return BAD;
        }
        if (now.day + n > LAST_DAY) {
            return FULL;
        }
        for (int day = 0; day < n; day++) {
            known.keep(now);
            if (drifting) {
                now.drawAndSend();
            }
            now.passDay(0);
        }
        return now.goneSet();
    }

    private void foretell(int n) {
        trial.become(now);
        for (int day = 0; day < n; day++) {
            trial.passDay(0);
        }
    }

    /** The weight, out of 10 for each monk who is sent, with which just these are ill and m marks are gone. */
    private int chanceOf(int ill, int m, int c) {
        int sent = now.sentSet();
        if ((ill & ~sent) != 0) {
            return 0;
        }
        trial.become(now);
        trial.passDay(ill);
        if (Integer.bitCount(trial.goneSet()) < m) {
            return 0;
        }
        return power(c, Integer.bitCount(ill)) * power(TEN - c, Integer.bitCount(sent & ~ill));
    }

    private static int power(int base, int exponent) {
        int product = 1;
        for (int step = 0; step < exponent; step++) {
            product *= base;
        }
        return product;
    }

    private static int commonDivisor(int first, int second) {
        int larger = first;
        int smaller = second;
        // Euclid on ints ends within 50 steps.
        for (int step = 0; step < 64 && smaller != 0; step++) {
            int rest = larger % smaller;
            larger = smaller;
            smaller = rest;
        }
        return larger;
    }

    private int kindsOfRow(int monk, Sheet row, int i, int n) {
        int kinds = 0;
        for (int kind = 0; kind < KINDS; kind++) {
            trial.become(now);
            trial.kind[monk] = kind;
            if (trialWears(monk, row, i, n)) {
                kinds |= 1 << kind;
            }
        }
        return kinds;
    }

    private int hardsOfRow(int monk, Sheet row, int i, int n) {
        int mark = now.sent[monk];
        int hards = 0;
        for (int hard = 1; hard <= HARDEST; hard++) {
            trial.become(now);
            trial.hard[mark] = hard;
            if (trialWears(monk, row, i, n)) {
                hards |= 1 << hard;
            }
        }
        return hards;
    }

    /** Whether in the trial the monk becomes, day by day, as small as the row tells. */
    private boolean trialWears(int monk, Sheet row, int i, int n) {
        for (int day = 0; day < n; day++) {
            trial.passDay(0);
            if (row.items[i + day] != trial.size[monk]) {
                return false;
            }
        }
        return true;
    }

    private int waysTogether(int n, long[] hards, int i, int k) {
        for (int crumbs = 0; crumbs <= n; crumbs++) {
            ways[crumbs] = 0;
        }
        ways[0] = 1;
        for (int each = i; each < i + k; each++) {
            int hard = (int) hards[each];
            for (int crumbs = hard; crumbs <= n; crumbs++) {
                ways[crumbs] = (ways[crumbs] + ways[crumbs - hard]) % WAYS_MODULUS;
            }
        }
        return ways[n];
    }

    /** All that days change and that is undone: marks, monks, the day, crumbs, the draw. */
    private static final class Rock {
        int marks;
        int monks;
        int day;
        int crumbs;
        int draw = 1;
        final int[] dark = new int[MOST_MARKS];
        final int[] hard = new int[MOST_MARKS];
        final int[] under = new int[MOST_MARKS];
        final int[] wool = new int[MOST_MARKS];
        final int[] kind = new int[MOST_MONKS];
        final int[] size = new int[MOST_MONKS];
        final int[] sent = new int[MOST_MONKS];

        void become(Rock other) {
            marks = other.marks;
            monks = other.monks;
            day = other.day;
            crumbs = other.crumbs;
            draw = other.draw;
            System.arraycopy(other.dark, 0, dark, 0, MOST_MARKS);
            System.arraycopy(other.hard, 0, hard, 0, MOST_MARKS);
            System.arraycopy(other.under, 0, under, 0, MOST_MARKS);
            System.arraycopy(other.wool, 0, wool, 0, MOST_MARKS);
            System.arraycopy(other.kind, 0, kind, 0, MOST_MONKS);
            System.arraycopy(other.size, 0, size, 0, MOST_MONKS);
            System.arraycopy(other.sent, 0, sent, 0, MOST_MONKS);
        }

        void markAsIn(Rock other, int mark) {
            dark[mark] = other.dark[mark];
            hard[mark] = other.hard[mark];
            under[mark] = other.under[mark];
            wool[mark] = other.wool[mark];
        }

        void clear() {
            marks = 0;
            monks = 0;
            day = 0;
            crumbs = 0;
        }

        int addMark(int darkness, int hardness, int below) {
            int mark = marks;
            dark[mark] = darkness;
            hard[mark] = hardness;
            under[mark] = below;
            wool[mark] = 0;
            marks = mark + 1;
            return mark;
        }

        int addMonk(int itsKind, int itsSize, int where) {
            int monk = monks;
            kind[monk] = itsKind;
            size[monk] = itsSize;
            sent[monk] = where;
            monks = monk + 1;
            return monk;
        }

        boolean isGone(int mark) {
            return dark[mark] == 0 && under[mark] == 0;
        }

        boolean isTorn(int mark) {
            return wool[mark] >= TORN_WOOL;
        }

        boolean isOpen(int mark) {
            return !isGone(mark) && !isTorn(mark);
        }

        boolean canRub(int monk, int mark) {
            return size[monk] > 0 && isOpen(mark);
        }

        void rubOnce(int monk, int mark) {
            int ahead = size[monk];
            dark[mark] = Math.max(0, dark[mark] - paleness(kind[monk], ahead));
            size[monk] = Math.max(0, ahead - wear(kind[monk], hard[mark]));
            wool[mark] = Math.min(TORN_WOOL, wool[mark] + woolOf(kind[monk]));
            crumbs += ahead - size[monk];
            if (dark[mark] == 0 && !isTorn(mark)) {
                dark[mark] = under[mark];
                under[mark] = 0;
            }
        }

        private static int paleness(int kind, int size) {
            switch (kind) {
                case NOVICE:
                case SAINT:
                    return size >= CORNER_SIZE ? CORNER_RUB : PLAIN_RUB;
                case STIFF:
                case ABBOT:
                    return 2 * PLAIN_RUB;
                default:
                    return PLAIN_RUB;
            }
        }

        private static int wear(int kind, int hard) {
            switch (kind) {
                case SAINT:
                    return hard / 2 + 1;
                case ABBOT:
                    return 1;
                default:
                    return hard;
            }
        }

        private static int woolOf(int kind) {
            switch (kind) {
                case STIFF:
                    return 3;
                case ABBOT:
                    return 2;
                default:
                    return 1;
            }
        }

        /** Rubs n times, or fewer where he can no more: how often he could. */
        int rubTimes(int monk, int mark, int n) {
            int rubs = 0;
            while (rubs < n && canRub(monk, mark)) {
                rubOnce(monk, mark);
                rubs++;
            }
            return rubs;
        }

        /** A day on which the monks of a set are ill. */
        void passDay(int ill) {
            for (int monk = 0; monk < monks; monk++) {
                boolean well = (ill >> monk & 1) == 0;
                if (well && sent[monk] >= 0 && canRub(monk, sent[monk])) {
                    rubOnce(monk, sent[monk]);
                }
            }
            day++;
        }

        /** A day of a crew at one mark: whether any of them could rub. */
        boolean crewRubs(int crew, int mark) {
            boolean rubbed = false;
            for (int monk = 0; monk < monks; monk++) {
                if ((crew >> monk & 1) != 0 && canRub(monk, mark)) {
                    rubOnce(monk, mark);
                    rubbed = true;
                }
            }
            return rubbed;
        }

        void drawAndSend() {
            draw = draw * 1103515245 + 12345 & 0x7fffffff;
            if (monks > 0 && marks > 0) {
                sent[draw / 65536 % monks] = draw / 128 % marks;
            }
        }

        int crewOf(int mark) {
            int crew = 0;
            for (int monk = 0; monk < monks; monk++) {
                if (sent[monk] == mark) {
                    crew |= 1 << monk;
                }
            }
            return crew;
        }

        int sentSet() {
            int set = 0;
            for (int monk = 0; monk < monks; monk++) {
                if (sent[monk] >= 0) {
                    set |= 1 << monk;
                }
            }
            return set;
        }

        int goneSet() {
            int set = 0;
            for (int mark = 0; mark < marks; mark++) {
                if (isGone(mark)) {
                    set |= 1 << mark;
                }
            }
            return set;
        }

        int tornSet() {
            int set = 0;
            for (int mark = 0; mark < marks; mark++) {
                if (isTorn(mark)) {
                    set |= 1 << mark;
                }
            }
            return set;
        }

        int openMarks() {
            int open = 0;
            for (int mark = 0; mark < marks; mark++) {
                if (isOpen(mark)) {
                    open++;
                }
            }
            return open;
        }

        int darkTogether() {
            int sum = 0;
            for (int mark = 0; mark < marks; mark++) {
                sum += dark[mark];
            }
            return sum;
        }

        int sizeTogether() {
            int sum = 0;
            for (int monk = 0; monk < monks; monk++) {
                sum += size[monk];
            }
            return sum;
        }
    }

    /** The latest rocks that may come back, as a ring in which the newest pushes out the oldest. */
    private static final class Known {
        final Rock[] kept = new Rock[MOST_KNOWN];
        int oldest;
        int length;

        Known() {
            for (int each = 0; each < MOST_KNOWN; each++) {
                kept[each] = new Rock();
            }
        }

        void forget() {
            length = 0;
        }

        void keep(Rock rock) {
            kept[(oldest + length) % MOST_KNOWN].become(rock);
            if (length < MOST_KNOWN) {
                length++;
            } else {
                oldest = (oldest + 1) % MOST_KNOWN;
            }
        }

        void takeBack(Rock rock) {
            if (length > 0) {
                length--;
                rock.become(kept[(oldest + length) % MOST_KNOWN]);
            }
        }

        void become(Known other) {
            oldest = other.oldest;
            length = other.length;
            for (int each = 0; each < MOST_KNOWN; each++) {
                kept[each].become(other.kept[each]);
            }
        }
    }

    /** The letters typed, and the reading of them as a rock. */
    private static final class Tape {
        final int[] letters = new int[TAPE_LENGTH];
        int length;
        private int place;
        private int fault;

        int put(int letter) {
            letters[length] = letter;
            length++;
            return length;
        }

        /** Reads all letters as a rock into the draft: the place of the first fault, or -1. */
        int readRock(Rock draft) {
            draft.clear();
            place = 0;
            fault = -1;
            if (!readMarks(draft)) {
                return fault;
            }
            if (accept(';') && !readMonks(draft)) {
                return fault;
            }
            return look() == TAPE_END ? -1 : place;
        }

        private boolean readMarks(Rock draft) {
            boolean more = true;
            for (int mark = 0; mark < MOST_MARKS && more; mark++) {
                if (!readMark(draft)) {
                    return false;
                }
                // Behind the last mark that has room a comma is left as a letter that can't stand there.
                more = mark < MOST_MARKS - 1 && accept(',');
            }
            return true;
        }

        private boolean readMonks(Rock draft) {
            boolean more = true;
            for (int monk = 0; monk < MOST_MONKS && more; monk++) {
                if (!readMonk(draft)) {
                    return false;
                }
                more = monk < MOST_MONKS - 1 && accept(',');
            }
            return true;
        }

        private boolean readMark(Rock draft) {
            int dark = readNumber(DARKEST);
            if (dark < 0 || !expect('.')) {
                return false;
            }
            int hard = readDigit(1, HARDEST);
            if (hard < 0) {
                return false;
            }
            int under = accept('/') ? readNumber(DARKEST) : 0;
            if (under < 0) {
                return false;
            }
            draft.addMark(dark, hard, under);
            return true;
        }

        private boolean readMonk(Rock draft) {
            int letter = look();
            int kind = letter == TAPE_END ? -1 : KIND_LETTERS.indexOf((char) letter);
            if (kind < 0) {
                return failAt(place);
            }
            place++;
            int size = readNumber(LARGEST);
            if (size < 0) {
                return false;
            }
            int where = NONE;
            if (accept('>')) {
                where = readDigit(0, draft.marks - 1);
                if (where < 0) {
                    return false;
                }
            }
            draft.addMonk(kind, size, where);
            return true;
        }

        /** A number of 1 or 2 digits with no blank between, or -1 and the fault is told. */
        private int readNumber(int most) {
            if (!isDigit(look())) {
                failAt(place);
                return -1;
            }
            int first = place;
            int value = letters[place] - '0';
            place++;
            if (place < length && isDigit(letters[place])) {
                value = 10 * value + letters[place] - '0';
                place++;
            }
            if (value > most) {
                failAt(first);
                return -1;
            }
            return value;
        }

        private int readDigit(int least, int most) {
            int digit = look() - '0';
            if (digit < least || digit > most) {
                failAt(place);
                return -1;
            }
            place++;
            return digit;
        }

        private boolean accept(char letter) {
            if (look() != letter) {
                return false;
            }
            place++;
            return true;
        }

        private boolean expect(char letter) {
            return accept(letter) || failAt(place);
        }

        private boolean failAt(int where) {
            fault = where;
            return false;
        }

        /** The next letter behind blanks, where the place then is; or the end. */
        private int look() {
            while (place < length && letters[place] == ' ') {
                place++;
            }
            return place < length ? letters[place] : TAPE_END;
        }

        private static boolean isDigit(int letter) {
            return letter >= '0' && letter <= '9';
        }
    }

    /** Nothing, or a row of a lane; the items of every lane stand as longs that are cut when written. */
    private static final class Sheet {
        boolean held;
        int lane;
        int length;
        final long[] items = new long[MOST_ITEMS];

        void hold(int itsLane, int n) {
            held = true;
            lane = itsLane;
            length = n;
            for (int each = 0; each < MOST_ITEMS; each++) {
                items[each] = 0;
            }
        }

        /** Whether n items from i on are in the row; n below 0 is what the machine refuses likewise. */
        boolean spans(int i, int n) {
            return i >= 0 && n >= 0 && i <= length - n;
        }

        void write(int i, long v) {
            switch (lane) {
                case 0:
                    items[i] = (byte) v;
                    break;
                case 1:
                    items[i] = (short) v;
                    break;
                case 2:
                    items[i] = (int) v;
                    break;
                default:
                    items[i] = v;
                    break;
            }
        }
    }

    /** To which marks the monks should be sent, so that most marks are gone. */
    private static final class SendPlan {
        // Monks at other marks change nothing for a mark: its fate hangs on its own crew alone.
        private final int[] fates = new int[MOST_MARKS];
        private final int[] crews = new int[MOST_MARKS];
        private final int[] choice = new int[MOST_MONKS];
        private int limit;
        final int[] best = new int[MOST_MONKS];
        int most;

        void plan(Rock now, Rock trial, int days) {
            limit = 0;
            for (int mark = 0; mark < now.marks; mark++) {
                fates[mark] = fatesOf(now, trial, mark, days);
                crews[mark] = 0;
                limit += fates[mark] == 0 ? 0 : 1;
            }
            most = -1;
            choose(now.marks, now.monks, 0);
        }

        /** The crews, a bit each, who take the mark away within the days. */
        private static int fatesOf(Rock now, Rock trial, int mark, int days) {
            int sets = 1 << now.monks;
            int fates = 0;
            for (int crew = 0; crew < sets; crew++) {
                trial.become(now);
                boolean rubbed = true;
                for (int day = 0; day < days && rubbed; day++) {
                    rubbed = trial.crewRubs(crew, mark);
                }
                if (trial.isGone(mark)) {
                    fates |= 1 << crew;
                }
            }
            return fates;
        }

        private void choose(int marks, int monks, int monk) {
            if (monk >= monks) {
                weigh(marks, monks);
                return;
            }
            int bit = 1 << monk;
            // Nothing is better than all that any crew takes away, and of like ones the first stays.
            for (int mark = 0; mark < marks && most < limit; mark++) {
                choice[monk] = mark;
                crews[mark] |= bit;
                choose(marks, monks, monk + 1);
                crews[mark] &= ~bit;
            }
        }

        private void weigh(int marks, int monks) {
            int gone = 0;
            for (int mark = 0; mark < marks; mark++) {
                gone += fates[mark] >>> crews[mark] & 1;
            }
            if (gone > most) {
                most = gone;
                System.arraycopy(choice, 0, best, 0, monks);
            }
        }
    }

    /** In which order one monk should rub all open marks, so that most of all marks are gone. */
    private static final class RoundPlan {
        private final int[] order = new int[MOST_MARKS];
        final int[] best = new int[MOST_MARKS];
        private int length;
        int most;

        void plan(Rock now, Rock trial, int monk) {
            trial.become(now);
            length = now.openMarks();
            most = -1;
            follow(now, trial, monk, 0, 0, Integer.bitCount(now.goneSet()));
        }

        private void follow(Rock now, Rock trial, int monk, int depth, int rubbed, int gone) {
            if (depth >= length) {
                weigh(gone);
                return;
            }
            if (gone + length - depth <= most) {
                return;
            }
            int size = trial.size[monk];
            for (int mark = 0; mark < now.marks; mark++) {
                if ((rubbed >> mark & 1) == 0 && now.isOpen(mark)) {
                    order[depth] = mark;
                    trial.size[monk] = size;
                    trial.markAsIn(now, mark);
                    trial.rubTimes(monk, mark, MOST_RUBS);
                    int more = trial.isGone(mark) ? 1 : 0;
                    follow(now, trial, monk, depth + 1, rubbed | 1 << mark, gone + more);
                }
            }
        }

        private void weigh(int gone) {
            if (gone > most) {
                most = gone;
                System.arraycopy(order, 0, best, 0, length);
            }
        }
    }

    /** The two monks who, one behind the other, take a mark away for least crumbs. */
    private static final class PairPlan {
        boolean found;
        int crumbs;
        int pair;
        int rubs;

        void plan(Rock now, Rock trial, int mark) {
            found = false;
            for (int first = 0; first < now.monks; first++) {
                for (int second = 0; second < now.monks; second++) {
                    if (first != second) {
                        tryPair(now, trial, mark, first, second);
                    }
                }
            }
        }

        private void tryPair(Rock now, Rock trial, int mark, int first, int second) {
            boolean could = true;
            for (int ahead = 0; ahead <= MOST_RUBS && could; ahead++) {
                trial.become(now);
                could = trial.rubTimes(first, mark, ahead) == ahead;
                trial.rubTimes(second, mark, MOST_RUBS - ahead);
                if (could && trial.isGone(mark)) {
                    weigh(trial.crumbs - now.crumbs, ahead, 10 * first + second);
                }
            }
        }

        private void weigh(int itsCrumbs, int itsRubs, int itsPair) {
            if (!found || isLess(itsCrumbs, itsRubs, itsPair)) {
                found = true;
                crumbs = itsCrumbs;
                rubs = itsRubs;
                pair = itsPair;
            }
        }

        private boolean isLess(int itsCrumbs, int itsRubs, int itsPair) {
            if (itsCrumbs != crumbs) {
                return itsCrumbs < crumbs;
            }
            return itsRubs != rubs ? itsRubs < rubs : itsPair < pair;
        }
    }
}
