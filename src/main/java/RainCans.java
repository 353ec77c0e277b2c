import java.util.Arrays;

/** Cans in gardens read by people day by day: what DOC.md promises, call by call. */
public final class RainCans {
    public static final int UNKNOWN = -1, OUTSIDE = -2, STATE = -3, FULL = -4, NO = -5, NONE = -6;
    public static final int GONE = -1000000000;
    public static final long LOST = -1000000000000000000L;

    private static final int CANS = 6, DAYS = 28, CELLS = 168, WINDS = 3, FIXES = 20, SIGNS = 40, RADARS = 6;
    private static final int LAST_PLACE = 20, SIDE = 21, PLACES = 441;
    private static final int MOST_READ = 999, MOST_BOUND = 9999, MOST_FLOW = 9999999, MOST_SEED = 9999;
    private static final int REACH = 0, PRICE = 1, SLOPE = 2, DOUBT = 3, SETTINGS = 4;
    private static final int[] SETTING_FIRST = {10, 50, 5, 1};
    private static final int[] SETTING_LEAST = {1, 0, 0, 0};
    private static final int[] SETTING_MOST = {40, 999, 99, 9};
    private static final int IMAGES = 2;
    private static final int WEEK = 7, LAST_WEEK = 21;

    /** Inside, "nothing" is below every reading; the face turns it into NONE. */
    private static final int NOTHING = -1;

    /** What a NOTE makes of a DAY. */
    private static final int COUNTS = 0, LEFT_OUT = 1, LATE = 2, SUMMED = 3;

    private final Garden garden;
    private final Pad pad;
    private final Rain rain;
    private final Week mendings;
    private final Breaks rifts;
    private final Land land;
    private final Records records;
    private final Habits habits;
    private final Garden[] images;
    private final boolean[] kept;

    public RainCans() {
        garden = new Garden();
        pad = new Pad();
        rain = new Rain(garden);
        mendings = new Week(rain);
        rifts = new Breaks(rain);
        land = new Land(rain);
        records = new Records(rain);
        habits = new Habits(garden);
        images = new Garden[IMAGES];
        for (int n = 0; n < IMAGES; n++) {
            images[n] = new Garden();
        }
        kept = new boolean[IMAGES];
    }

    // ---- 1 cans, readings, notes

    public int can(int x, int y) {
        if (!isPlace(x, y)) {
            return OUTSIDE;
        }
        if (garden.cans >= CANS) {
            return FULL;
        }
        rain.stale = true;
        return garden.addCan(x, y);
    }

    public int miss(int can, int wind, int tenths) {
        if (!isCan(can)) {
            return UNKNOWN;
        }
        if (!isWithin(wind, 0, WINDS - 1) || !isWithin(tenths, 0, 9)) {
            return OUTSIDE;
        }
        int cell = can * WINDS + wind;
        int was = garden.missed[cell];
        garden.missed[cell] = tenths;
        rain.stale = true;
        return was;
    }

    public int wind(int day, int v) {
        if (!isDay(day)) {
            return UNKNOWN;
        }
        if (!isWithin(v, 0, WINDS - 1)) {
            return OUTSIDE;
        }
        int was = garden.winds[day];
        garden.winds[day] = v;
        rain.stale = true;
        return was;
    }

    public int raw(int can, int day, int v) {
        if (!isCan(can) || !isDay(day)) {
            return UNKNOWN;
        }
        if (!isWithin(v, NOTHING, MOST_READ)) {
            return OUTSIDE;
        }
        int cell = can * DAYS + day;
        int was = garden.raws[cell];
        garden.raws[cell] = v;
        rain.stale = true;
        return orNone(was);
    }

    public int fix(int can, int day, int v) {
        if (!isCan(can) || !isDay(day)) {
            return UNKNOWN;
        }
        if (!isWithin(v, NOTHING, MOST_READ)) {
            return OUTSIDE;
        }
        if (garden.fixes.count >= FIXES) {
            return FULL;
        }
        garden.fixes.add(can * DAYS + day, v);
        rain.stale = true;
        return garden.fixes.count;
    }

    public int undo() {
        if (garden.fixes.count == 0) {
            return NO;
        }
        garden.fixes.takeBack();
        rain.stale = true;
        return garden.fixes.count;
    }

    public int say(int sign) {
        if (!isWithin(sign, 33, 126)) {
            return OUTSIDE;
        }
        if (pad.length >= SIGNS) {
            return FULL;
        }
        return pad.add(sign);
    }

    public int wipe() {
        int were = pad.length;
        pad.length = 0;
        return were;
    }

    public int fault() {
        return orNone(pad.faultPlace());
    }

    public int note(int can) {
        if (!isCan(can)) {
            return UNKNOWN;
        }
        // no signs at all are a FAULT, yet they take a CAN's NOTES away
        if (pad.length > 0 && pad.faultPlace() != NOTHING) {
            return NO;
        }
        if (!pad.readItems()) {
            return NO;
        }
        garden.takeNotes(can, pad);
        pad.length = 0;
        rain.stale = true;
        return pad.items;
    }

    public int of(int can, int day, int what) {
        if (!isCan(can) || !isDay(day)) {
            return UNKNOWN;
        }
        if (!isWithin(what, 0, 5)) {
            return OUTSIDE;
        }
        rain.refresh();
        return orNone(rain.lookUp(can * DAYS + day, what));
    }

    // ---- 2 weeks

    public int set(int which, int v) {
        if (!isWithin(which, 0, SETTINGS - 1) || !isWithin(v, SETTING_LEAST[which], SETTING_MOST[which])) {
            return OUTSIDE;
        }
        int was = garden.settings[which];
        garden.settings[which] = v;
        rain.stale = true;
        return was;
    }

    public int week(int can, int day, int what) {
        if (!isCan(can) || !isWithin(day, 0, LAST_WEEK)) {
            return UNKNOWN;
        }
        if (!isWithin(what, 0, 3)) {
            return OUTSIDE;
        }
        rain.refresh();
        mendings.explain(can * DAYS + day);
        switch (what) {
            case 0:
                return mendings.cost;
            case 1:
                return mendings.count;
            case 2:
                return orNone(mendings.first);
            default:
                return orNone(mendings.second);
        }
    }

    // ---- 3 breaks

    public int breaks(int can, int what) {
        if (!isCan(can)) {
            return GONE + UNKNOWN;
        }
        if (!isWithin(what, 0, 1)) {
            return GONE + OUTSIDE;
        }
        rain.refresh();
        if (!rifts.find(can)) {
            return GONE + NO;
        }
        return what == 0 ? rifts.firstDayBehind() : rifts.step();
    }

    public int chance(int can, int seed) {
        if (!isCan(can)) {
            return UNKNOWN;
        }
        if (!isWithin(seed, 0, MOST_SEED)) {
            return OUTSIDE;
        }
        rain.refresh();
        if (!rifts.find(can)) {
            return NO;
        }
        return rifts.shuffledAsGreat(seed);
    }

    // ---- 4 between cans

    public int radar(int day, int x, int y, int least, int most) {
        if (!isDay(day)) {
            return UNKNOWN;
        }
        if (!isPlace(x, y) || !isWithin(least, 0, MOST_READ) || !isWithin(most, least, MOST_READ)) {
            return OUTSIDE;
        }
        if (garden.radars.count >= RADARS) {
            return FULL;
        }
        return garden.radars.add(day, x, y, least, most);
    }

    public int blind() {
        int were = garden.radars.count;
        garden.radars.count = 0;
        return were;
    }

    public int bound(int day, int x, int y, int end) {
        if (!isDay(day)) {
            return UNKNOWN;
        }
        if (!isPlace(x, y) || !isWithin(end, 0, 1)) {
            return OUTSIDE;
        }
        rain.refresh();
        land.gather(day);
        if (!land.boundsAt(x, y)) {
            return NO;
        }
        return end == 0 ? land.least : land.most;
    }

    public int over(int day, int fromX, int toX, int fromY, int toY, int end) {
        if (!isDay(day)) {
            return UNKNOWN;
        }
        if (!isLand(fromX, toX, fromY, toY) || !isWithin(end, 0, 1)) {
            return OUTSIDE;
        }
        rain.refresh();
        land.gather(day);
        if (!land.sum(fromX, toX, fromY, toY)) {
            return NO;
        }
        return end == 0 ? land.leastSum : land.mostSum;
    }

    public int flow(int day, int fromX, int toX, int fromY, int toY, int part, int flow) {
        if (!isDay(day)) {
            return GONE + UNKNOWN;
        }
        if (!isLand(fromX, toX, fromY, toY) || !isWithin(part, 0, 100) || !isWithin(flow, 0, MOST_FLOW)) {
            return GONE + OUTSIDE;
        }
        rain.refresh();
        land.gather(day);
        if (!land.sum(fromX, toX, fromY, toY)) {
            return GONE + NO;
        }
        return land.beyond(part, flow);
    }

    public int fill(int can, int day, int what) {
        if (!isCan(can) || !isDay(day)) {
            return UNKNOWN;
        }
        if (!isWithin(what, 0, 1)) {
            return OUTSIDE;
        }
        rain.refresh();
        if (rain.value[can * DAYS + day] != NOTHING) {
            return STATE;
        }
        land.gather(day);
        if (!land.boundsAt(garden.x[can], garden.y[can])) {
            return NO;
        }
        return what == 0 ? (land.least + land.most) / 2 : (land.most - land.least) / 2 + 1;
    }

    public int place(int fromX, int toX, int fromY, int toY) {
        if (!isLand(fromX, toX, fromY, toY)) {
            return OUTSIDE;
        }
        land.gatherNearest(fromX, toX, fromY, toY);
        return land.bestNew();
    }

    // ---- 5 records, claims, habits

    public int record(int row, int day, int what) {
        if (!isRow(row) || !isWithin(what, 0, 1)) {
            return OUTSIDE;
        }
        if (!isDay(day)) {
            return UNKNOWN;
        }
        rain.refresh();
        records.gather(row);
        int can = records.canOn(day);
        if (can == NOTHING) {
            return NONE;
        }
        return what == 0 ? rain.value[can * DAYS + day] : can;
    }

    public int seam(int row, int i) {
        if (!isRow(row)) {
            return OUTSIDE;
        }
        rain.refresh();
        records.gather(row);
        records.join();
        if (i == -2) {
            return records.sum;
        }
        if (i == -1) {
            return records.seamCount;
        }
        // of i the document tells no bounds: where there is no i-th DAY, there is none
        return i >= 0 && i < records.seamCount ? records.seams[i] : NONE;
    }

    public int claim(int can, int day) {
        if (!isCan(can) || !isDay(day)) {
            return UNKNOWN;
        }
        rain.refresh();
        int cell = can * DAYS + day;
        if (rain.value[cell] == NOTHING) {
            return STATE;
        }
        return records.judge(cell);
    }

    public int fives(int can, int what) {
        if (!isCan(can)) {
            return UNKNOWN;
        }
        if (!isWithin(what, 0, 1)) {
            return OUTSIDE;
        }
        habits.countFives(can);
        return what == 0 ? habits.round : habits.wet;
    }

    public long odds(int can, int part) {
        if (!isCan(can)) {
            return LOST + UNKNOWN;
        }
        if (!isWithin(part, 0, 1)) {
            return LOST + OUTSIDE;
        }
        habits.countFives(can);
        habits.weighFives();
        return part == 0 ? habits.upper : habits.lower;
    }

    public int forgets(int can, int what) {
        if (!isCan(can)) {
            return UNKNOWN;
        }
        if (!isWithin(what, 0, 1)) {
            return OUTSIDE;
        }
        habits.findForgotten(can);
        return what == 0 ? habits.weekday : habits.forgotten;
    }

    public int image(int n) {
        if (!isWithin(n, 0, IMAGES - 1)) {
            return OUTSIDE;
        }
        images[n].copyFrom(garden);
        kept[n] = true;
        return 1;
    }

    public int restore(int n) {
        if (!isWithin(n, 0, IMAGES - 1)) {
            return OUTSIDE;
        }
        if (!kept[n]) {
            return STATE;
        }
        garden.copyFrom(images[n]);
        rain.stale = true;
        return 1;
    }

    public int told(int what) {
        if (isWithin(what, 4, 7)) {
            return garden.settings[what - 4];
        }
        if (isWithin(what, 10, 37)) {
            return garden.winds[what - 10];
        }
        switch (what) {
            case 0:
                return garden.cans;
            case 1:
                return garden.fixes.count;
            case 2:
                return pad.length;
            case 3:
                return garden.radars.count;
            default:
                return OUTSIDE;
        }
    }

    // ---- what calls are asked about

    private boolean isCan(int can) {
        return can >= 0 && can < garden.cans;
    }

    private static boolean isDay(int day) {
        return isWithin(day, 0, DAYS - 1);
    }

    private static boolean isPlace(int x, int y) {
        return isWithin(x, 0, LAST_PLACE) && isWithin(y, 0, LAST_PLACE);
    }

    /** A LAND of one place alone is one, too. */
    private static boolean isLand(int fromX, int toX, int fromY, int toY) {
        return isPlace(fromX, fromY) && isPlace(toX, toY) && fromX <= toX && fromY <= toY;
    }

    private static boolean isRow(int row) {
        if (!isWithin(row, 1, 666666)) {
            return false;
        }
        int rest = row;
        for (int digits = 0; digits < CANS; digits++) {
            if (rest % 10 > CANS) {
                return false;
            }
            rest = rest / 10;
        }
        return true;
    }

    private static boolean isWithin(int v, int least, int most) {
        return v >= least && v <= most;
    }

    private static int orNone(int v) {
        return v == NOTHING ? NONE : v;
    }

    private static int far(int x, int y, int otherX, int otherY) {
        return Math.abs(x - otherX) + Math.abs(y - otherY);
    }

    /** Parts a total over the places from one to another by what is expected there; what is left goes to the last. */
    private static void part(int[] row, int from, int to, int total, int[] expected) {
        int together = 0;
        for (int i = from; i <= to; i++) {
            together += Math.max(0, expected[i]);
        }
        int left = total;
        for (int i = from; i < to; i++) {
            row[i] = together == 0 ? 0 : total * Math.max(0, expected[i]) / together;
            left -= row[i];
        }
        row[to] = left;
    }

    /** The FIXES; those of one CAN and DAY are a chain, so that the one that counts is found at once. */
    private static final class Fixes {
        int count;
        final int[] cells = new int[FIXES];
        final int[] values = new int[FIXES];
        final int[] earlier = new int[FIXES];
        final int[] last = new int[CELLS];

        Fixes() {
            Arrays.fill(last, NOTHING);
        }

        void add(int cell, int v) {
            cells[count] = cell;
            values[count] = v;
            earlier[count] = last[cell];
            last[cell] = count;
            count++;
        }

        void takeBack() {
            count--;
            last[cells[count]] = earlier[count];
        }

        void copyFrom(Fixes other) {
            count = other.count;
            System.arraycopy(other.cells, 0, cells, 0, FIXES);
            System.arraycopy(other.values, 0, values, 0, FIXES);
            System.arraycopy(other.earlier, 0, earlier, 0, FIXES);
            System.arraycopy(other.last, 0, last, 0, CELLS);
        }
    }

    private static final class Radars {
        int count;
        final int[] days = new int[RADARS];
        final int[] x = new int[RADARS];
        final int[] y = new int[RADARS];
        final int[] least = new int[RADARS];
        final int[] most = new int[RADARS];

        int add(int day, int atX, int atY, int from, int to) {
            days[count] = day;
            x[count] = atX;
            y[count] = atY;
            least[count] = from;
            most[count] = to;
            count++;
            return count - 1;
        }

        void copyFrom(Radars other) {
            count = other.count;
            System.arraycopy(other.days, 0, days, 0, RADARS);
            System.arraycopy(other.x, 0, x, 0, RADARS);
            System.arraycopy(other.y, 0, y, 0, RADARS);
            System.arraycopy(other.least, 0, least, 0, RADARS);
            System.arraycopy(other.most, 0, most, 0, RADARS);
        }
    }

    /** All that an IMAGE keeps. A CAN's DAYS stand in one row: cell = can * DAYS + day. */
    private static final class Garden {
        int cans;
        final int[] x = new int[CANS];
        final int[] y = new int[CANS];
        final int[] missed = new int[CANS * WINDS];
        final int[] winds = new int[DAYS];
        final int[] raws = new int[CELLS];
        final int[] notes = new int[CELLS];
        final int[] sumFirst = new int[CELLS];
        final int[] sumLast = new int[CELLS];
        final int[] settings = new int[SETTINGS];
        final Fixes fixes = new Fixes();
        final Radars radars = new Radars();

        Garden() {
            Arrays.fill(raws, NOTHING);
            System.arraycopy(SETTING_FIRST, 0, settings, 0, SETTINGS);
        }

        int addCan(int atX, int atY) {
            x[cans] = atX;
            y[cans] = atY;
            cans++;
            return cans - 1;
        }

        void takeNotes(int can, Pad pad) {
            int start = can * DAYS;
            System.arraycopy(pad.notes, 0, notes, start, DAYS);
            System.arraycopy(pad.sumFirst, 0, sumFirst, start, DAYS);
            System.arraycopy(pad.sumLast, 0, sumLast, start, DAYS);
        }

        /** What RAW and FIXES tell. */
        int counted(int cell) {
            int fix = fixes.last[cell];
            return fix == NOTHING ? raws[cell] : fixes.values[fix];
        }

        void copyFrom(Garden other) {
            cans = other.cans;
            System.arraycopy(other.x, 0, x, 0, CANS);
            System.arraycopy(other.y, 0, y, 0, CANS);
            System.arraycopy(other.missed, 0, missed, 0, CANS * WINDS);
            System.arraycopy(other.winds, 0, winds, 0, DAYS);
            System.arraycopy(other.raws, 0, raws, 0, CELLS);
            System.arraycopy(other.notes, 0, notes, 0, CELLS);
            System.arraycopy(other.sumFirst, 0, sumFirst, 0, CELLS);
            System.arraycopy(other.sumLast, 0, sumLast, 0, CELLS);
            System.arraycopy(other.settings, 0, settings, 0, SETTINGS);
            fixes.copyFrom(other.fixes);
            radars.copyFrom(other.radars);
        }
    }

    /** The signs that are said, and the ITEMS that they are read as. */
    private static final class Pad {
        /** Where in an ITEM the next sign stands. */
        private static final int AT_LETTER = 0, AT_DAY = 1, IN_DAY = 2, BEHIND_DAY = 3,
                AT_END = 4, IN_END = 5, BEHIND_END = 6, WRONG = 7;

        int length;
        int items;
        final int[] signs = new int[SIGNS];
        final int[] notes = new int[DAYS];
        final int[] sumFirst = new int[DAYS];
        final int[] sumLast = new int[DAYS];

        int add(int sign) {
            signs[length] = sign;
            length++;
            return length;
        }

        /** THE FAULT, or NOTHING. */
        int faultPlace() {
            int at = AT_LETTER;
            for (int i = 0; i < length; i++) {
                at = next(at, signs[i]);
                if (at == WRONG) {
                    return i;
                }
            }
            boolean whole = at != AT_LETTER && at != AT_DAY && at != AT_END;
            return whole ? NOTHING : length;
        }

        private static int next(int at, int sign) {
            boolean digit = isDigit(sign);
            switch (at) {
                case AT_LETTER:
                    return sign == 'x' || sign == 'l' || sign == 's' ? AT_DAY : WRONG;
                case AT_DAY:
                    return digit ? IN_DAY : WRONG;
                case IN_DAY:
                    return digit ? BEHIND_DAY : sign == '-' ? AT_END : behind(sign);
                case BEHIND_DAY:
                    return sign == '-' ? AT_END : behind(sign);
                case AT_END:
                    return digit ? IN_END : WRONG;
                case IN_END:
                    return digit ? BEHIND_END : behind(sign);
                default:
                    return behind(sign);
            }
        }

        private static int behind(int sign) {
            return sign == ';' ? AT_LETTER : WRONG;
        }

        private static boolean isDigit(int sign) {
            return sign >= '0' && sign <= '9';
        }

        /** Reads signs that have no FAULT; false: they are not taken. */
        boolean readItems() {
            Arrays.fill(notes, COUNTS);
            items = 0;
            int letter = 0;
            int day = 0;
            int end = NOTHING;
            for (int i = 0; i < length; i++) {
                int sign = signs[i];
                if (sign == ';') {
                    if (!takeItem(letter, day, end)) {
                        return false;
                    }
                } else if (sign == '-') {
                    end = 0;
                } else if (!isDigit(sign)) {
                    letter = sign;
                    day = 0;
                    end = NOTHING;
                } else if (end == NOTHING) {
                    day = day * 10 + sign - '0';
                } else {
                    end = end * 10 + sign - '0';
                }
            }
            return length == 0 || takeItem(letter, day, end);
        }

        private boolean takeItem(int letter, int day, int end) {
            boolean single = end == NOTHING;
            if (!single && end <= day) {
                return false;
            }
            int last = single ? day : end;
            int first = single && letter == 's' ? day - 1 : day;
            if (first < 0 || last >= DAYS || letter == 'l' && first == 0) {
                return false;
            }
            int kind = letter == 'x' ? LEFT_OUT : letter == 'l' ? LATE : SUMMED;
            for (int d = first; d <= last; d++) {
                if (notes[d] != COUNTS) {
                    return false;
                }
                notes[d] = kind;
                sumFirst[d] = first;
                sumLast[d] = last;
            }
            items++;
            return true;
        }
    }

    /** What the readings come to: READ, PLAIN, EXPECTED and VALUE of every cell, made anew when it is stale. */
    private static final class Rain {
        final Garden garden;
        final int[] read = new int[CELLS];
        final int[] plain = new int[CELLS];
        final int[] expected = new int[CELLS];
        final int[] value = new int[CELLS];
        boolean stale = true;

        Rain(Garden garden) {
            this.garden = garden;
        }

        void refresh() {
            if (!stale) {
                return;
            }
            for (int can = 0; can < garden.cans; can++) {
                for (int day = 0; day < DAYS; day++) {
                    readDay(can, day);
                }
            }
            for (int can = 0; can < garden.cans; can++) {
                expectDays(can);
            }
            for (int can = 0; can < garden.cans; can++) {
                valueDays(can);
            }
            stale = false;
        }

        int lookUp(int cell, int what) {
            switch (what) {
                case 0:
                    return garden.raws[cell];
                case 1:
                    return garden.counted(cell);
                case 2:
                    return read[cell];
                case 3:
                    return plain[cell];
                case 4:
                    return expected[cell];
                default:
                    return value[cell];
            }
        }

        private void readDay(int can, int day) {
            int cell = can * DAYS + day;
            int note = garden.notes[cell];
            int got;
            if (note == LEFT_OUT || note == SUMMED && garden.sumLast[cell] != day) {
                got = NOTHING;
            } else if (day + 1 < DAYS && garden.notes[cell + 1] == LATE) {
                got = garden.counted(cell + 1);
            } else {
                got = note == LATE ? NOTHING : garden.counted(cell);
            }
            read[cell] = got;
            plain[cell] = got == NOTHING || note == SUMMED ? NOTHING : fallen(can, day, got);
        }

        private int fallen(int can, int day, int caught) {
            int tenths = 10 - garden.missed[can * WINDS + garden.winds[day]];
            return tenths == 0 ? NOTHING : caught * 10 / tenths;
        }

        private void expectDays(int can) {
            int start = can * DAYS;
            for (int day = 0; day < DAYS; day++) {
                int sum = 0;
                int count = 0;
                for (int other = 0; other < garden.cans; other++) {
                    int told = plain[other * DAYS + day];
                    if (told != NOTHING && isNeighbour(can, other)) {
                        sum += told;
                        count++;
                    }
                }
                expected[start + day] = count == 0 ? NOTHING : sum / count;
            }
        }

        private boolean isNeighbour(int can, int other) {
            return can != other
                    && far(garden.x[can], garden.y[can], garden.x[other], garden.y[other]) <= garden.settings[REACH];
        }

        private void valueDays(int can) {
            int start = can * DAYS;
            for (int day = 0; day < DAYS; day++) {
                int cell = start + day;
                value[cell] = plain[cell];
                if (garden.notes[cell] == SUMMED && garden.sumLast[cell] == day && read[cell] != NOTHING) {
                    int total = fallen(can, day, read[cell]);
                    part(value, start + garden.sumFirst[cell], cell, total, expected);
                }
            }
        }
    }

    /** MENDINGS are told by 100 times the kind, 10 times i, and j: so their order is that of numbers. */
    private static final class Week {
        private static final int CODES = 38;

        final Rain rain;
        final int[] codes = new int[CODES];
        final int[] values = new int[WEEK];
        final int[] expected = new int[WEEK];
        final int[] once = new int[WEEK];
        final int[] twice = new int[WEEK];
        int cost;
        int count;
        int first;
        int second;

        Week(Rain rain) {
            this.rain = rain;
            int n = 0;
            for (int code = 0; code < 300 && n < CODES; code++) {
                if (isMending(code / 100, code / 10 % 10, code % 10)) {
                    codes[n] = code;
                    n++;
                }
            }
        }

        private static boolean isMending(int kind, int i, int j) {
            if (kind == 0) {
                return i < WEEK - 1 && j == 0;
            }
            if (kind == 1) {
                return i >= 1 && j >= i && j < WEEK;
            }
            return j < WEEK && (j == i + 1 || j == i + 2);
        }

        void explain(int start) {
            for (int i = 0; i < WEEK; i++) {
                values[i] = Math.max(0, rain.value[start + i]);
                expected[i] = Math.max(0, rain.expected[start + i]);
            }
            cost = misfit(values);
            count = 0;
            first = NOTHING;
            second = NOTHING;
            // the fewest MENDINGS are tried first, so that later ones must be better
            tryOne();
            tryTwo();
        }

        private void tryOne() {
            int price = rain.garden.settings[PRICE];
            for (int a = 0; a < CODES; a++) {
                if (mend(values, codes[a], once)) {
                    keepBetter(misfit(once) + price, 1, codes[a], NOTHING);
                }
            }
        }

        private void tryTwo() {
            int prices = 2 * rain.garden.settings[PRICE];
            for (int a = 0; a < CODES; a++) {
                if (!mend(values, codes[a], once)) {
                    continue;
                }
                for (int b = 0; b < CODES; b++) {
                    if (mend(once, codes[b], twice)) {
                        keepBetter(misfit(twice) + prices, 2, codes[a], codes[b]);
                    }
                }
            }
        }

        private void keepBetter(int newCost, int newCount, int newFirst, int newSecond) {
            if (newCost < cost) {
                cost = newCost;
                count = newCount;
                first = newFirst;
                second = newSecond;
            }
        }

        /** False: this MENDING can not be. */
        private boolean mend(int[] from, int code, int[] into) {
            int i = code / 10 % 10;
            int j = code % 10;
            System.arraycopy(from, 0, into, 0, WEEK);
            switch (code / 100) {
                case 0:
                    into[i] = from[i + 1];
                    into[i + 1] = from[i];
                    return true;
                case 1:
                    System.arraycopy(from, i, into, i - 1, j - i + 1);
                    into[j] = 0;
                    return true;
                default:
                    for (int k = i; k < j; k++) {
                        if (from[k] != 0) {
                            return false;
                        }
                    }
                    part(into, i, j, from[j], expected);
                    return true;
            }
        }

        private int misfit(int[] row) {
            int sum = 0;
            for (int i = 0; i < WEEK; i++) {
                sum += Math.abs(row[i] - expected[i]);
            }
            return sum;
        }
    }

    private static final class Breaks {
        private static final int LEAST_PART = 4, SHUFFLES = 99;

        final Rain rain;
        final int[] row = new int[DAYS];
        final int[] days = new int[DAYS];
        final int[] mixed = new int[DAYS];
        int count;
        int together;
        int parting;
        long greatest;
        int seed;

        Breaks(Rain rain) {
            this.rain = rain;
        }

        /** False: there are too few DIFFERENCES for two parts. */
        boolean find(int can) {
            gatherDifferences(can * DAYS);
            if (count < 2 * LEAST_PART) {
                return false;
            }
            greatest = NOTHING;
            int firstSum = 0;
            for (int k = 1; k <= count - LEAST_PART; k++) {
                firstSum += row[k - 1];
                if (k >= LEAST_PART && contrast(firstSum, k) > greatest) {
                    greatest = contrast(firstSum, k);
                    parting = k;
                }
            }
            return true;
        }

        int firstDayBehind() {
            return days[parting];
        }

        int step() {
            int firstSum = 0;
            for (int i = 0; i < parting; i++) {
                firstSum += row[i];
            }
            int over = parting * (count - parting);
            return over == 0 ? 0 : -apart(firstSum, parting) / over;
        }

        int shuffledAsGreat(int start) {
            System.arraycopy(row, 0, mixed, 0, count);
            seed = start;
            int found = 0;
            for (int n = 0; n < SHUFFLES; n++) {
                mix();
                if (isAsGreat()) {
                    found++;
                }
            }
            return found;
        }

        private void gatherDifferences(int start) {
            count = 0;
            together = 0;
            for (int day = 0; day < DAYS; day++) {
                int value = rain.value[start + day];
                int expected = rain.expected[start + day];
                if (value != NOTHING && expected != NOTHING) {
                    row[count] = value - expected;
                    days[count] = day;
                    together += row[count];
                    count++;
                }
            }
        }

        private void mix() {
            for (int i = count - 1; i >= 1; i--) {
                seed = (seed * 75 + 74) % 65537;
                int other = seed % (i + 1);
                int was = mixed[i];
                mixed[i] = mixed[other];
                mixed[other] = was;
            }
        }

        private boolean isAsGreat() {
            int firstSum = 0;
            for (int k = 1; k <= count - LEAST_PART; k++) {
                firstSum += mixed[k - 1];
                if (k >= LEAST_PART && contrast(firstSum, k) >= greatest) {
                    return true;
                }
            }
            return false;
        }

        /** By what partings are compared, when k DIFFERENCES are in the first part. */
        private long contrast(int firstSum, int k) {
            long apart = apart(firstSum, k);
            int over = k * (count - k);
            return over == 0 ? 0 : apart * apart / over;
        }

        /** The first sum times how many are in the second part, less the second sum times how many are in the first. */
        private int apart(int firstSum, int k) {
            return firstSum * (count - k) - (together - firstSum) * k;
        }
    }

    private static final class Land {
        final Rain rain;
        final Garden garden;
        final int[] anchorX = new int[CANS + RADARS];
        final int[] anchorY = new int[CANS + RADARS];
        final int[] anchorLeast = new int[CANS + RADARS];
        final int[] anchorMost = new int[CANS + RADARS];
        int anchors;
        int least;
        int most;
        int leastSum;
        int mostSum;
        final int[] placeX = new int[PLACES];
        final int[] placeY = new int[PLACES];
        final int[] nearest = new int[PLACES];
        int places;

        Land(Rain rain) {
            this.rain = rain;
            this.garden = rain.garden;
        }

        /** Gathers the CANS with a VALUE and the RADARS that bind a DAY. */
        void gather(int day) {
            anchors = 0;
            for (int can = 0; can < garden.cans; can++) {
                int value = rain.value[can * DAYS + day];
                if (value != NOTHING) {
                    addAnchor(garden.x[can], garden.y[can], value, value);
                }
            }
            Radars radars = garden.radars;
            for (int n = 0; n < radars.count; n++) {
                if (radars.days[n] == day) {
                    addAnchor(radars.x[n], radars.y[n], radars.least[n], radars.most[n]);
                }
            }
        }

        private void addAnchor(int x, int y, int from, int to) {
            anchorX[anchors] = x;
            anchorY[anchors] = y;
            anchorLeast[anchors] = from;
            anchorMost[anchors] = to;
            anchors++;
        }

        /** False: CLASH. */
        boolean boundsAt(int x, int y) {
            least = 0;
            most = MOST_BOUND;
            for (int n = 0; n < anchors; n++) {
                int give = garden.settings[SLOPE] * far(x, y, anchorX[n], anchorY[n]);
                least = Math.max(least, anchorLeast[n] - give);
                most = Math.min(most, anchorMost[n] + give);
            }
            return least <= most;
        }

        /** False: CLASH somewhere. */
        boolean sum(int fromX, int toX, int fromY, int toY) {
            leastSum = 0;
            mostSum = 0;
            for (int x = fromX; x <= toX; x++) {
                for (int y = fromY; y <= toY; y++) {
                    if (!boundsAt(x, y)) {
                        return false;
                    }
                    leastSum += least;
                    mostSum += most;
                }
            }
            return true;
        }

        int beyond(int part, int flow) {
            int due = leastSum * (100 - part) / 100;
            if (flow > mostSum) {
                return flow - mostSum;
            }
            return flow < due ? flow - due : 0;
        }

        void gatherNearest(int fromX, int toX, int fromY, int toY) {
            places = 0;
            for (int x = fromX; x <= toX; x++) {
                for (int y = fromY; y <= toY; y++) {
                    placeX[places] = x;
                    placeY[places] = y;
                    nearest[places] = nearestCan(x, y);
                    places++;
                }
            }
        }

        private int nearestCan(int x, int y) {
            int near = 2 * SIDE;
            for (int can = 0; can < garden.cans; can++) {
                near = Math.min(near, far(x, y, garden.x[can], garden.y[can]));
            }
            return near;
        }

        int bestNew() {
            int best = 0;
            int bestSum = PLACES * 2 * SIDE;
            for (int x = 0; x < SIDE; x++) {
                for (int y = 0; y < SIDE; y++) {
                    int sum = farness(x, y, bestSum);
                    if (sum < bestSum) {
                        bestSum = sum;
                        best = 100 * x + y;
                    }
                }
            }
            return best;
        }

        /** Stops as soon as it is no better than what is known. */
        private int farness(int x, int y, int enough) {
            int sum = 0;
            for (int n = 0; n < places && sum < enough; n++) {
                sum += Math.min(nearest[n], far(x, y, placeX[n], placeY[n]));
            }
            return sum;
        }
    }

    private static final class Records {
        final Rain rain;
        final int[] order = new int[CANS];
        final int[] seams = new int[DAYS];
        int ordered;
        int seamCount;
        int sum;

        Records(Rain rain) {
            this.rain = rain;
        }

        /** Takes a row's digits, the first one first, without those that no CAN has. */
        void gather(int row) {
            ordered = 0;
            for (int unit = 100000; unit >= 1; unit /= 10) {
                int digit = row / unit % 10;
                if (digit >= 1 && digit <= rain.garden.cans) {
                    order[ordered] = digit - 1;
                    ordered++;
                }
            }
        }

        int canOn(int day) {
            for (int n = 0; n < ordered; n++) {
                if (rain.value[order[n] * DAYS + day] != NOTHING) {
                    return order[n];
                }
            }
            return NOTHING;
        }

        void join() {
            seamCount = 0;
            sum = 0;
            int last = NOTHING;
            for (int day = 0; day < DAYS; day++) {
                int can = canOn(day);
                if (can == NOTHING) {
                    continue;
                }
                sum += rain.value[can * DAYS + day];
                if (last != NOTHING && can != last) {
                    seams[seamCount] = day;
                    seamCount++;
                }
                last = can;
            }
        }

        int judge(int cell) {
            int begin = rain.value[cell];
            int end = spanEnd(begin);
            boolean above = true;
            int cells = rain.garden.cans * DAYS;
            for (int other = 0; other < cells; other++) {
                int value = rain.value[other];
                if (other == cell || value == NOTHING) {
                    continue;
                }
                if (value > end) {
                    return 0;
                }
                above = above && spanEnd(value) < begin;
            }
            return above ? 2 : 1;
        }

        private int spanEnd(int value) {
            return value * (10 + rain.garden.settings[DOUBT]) / 10;
        }
    }

    private static final class Habits {
        /** With more, 5 to that power would not be a long any more. */
        private static final int MOST_WET = 26;

        final Garden garden;
        final int[] missing = new int[WEEK];
        int wet;
        int round;
        long upper;
        long lower;
        int weekday;
        int forgotten;

        Habits(Garden garden) {
            this.garden = garden;
        }

        void countFives(int can) {
            wet = 0;
            round = 0;
            for (int day = 0; day < DAYS && wet < MOST_WET; day++) {
                int raw = garden.raws[can * DAYS + day];
                if (raw > 0) {
                    wet++;
                    round += raw % 5 == 0 ? 1 : 0;
                }
            }
        }

        /** The upper number: for each count from round to wet the ways to choose it, times 4 for each of the others. */
        void weighFives() {
            upper = 0;
            lower = 1;
            long ways = 1;
            long fours = 1;
            for (int others = 0; others <= wet - round; others++) {
                upper += ways * fours;
                ways = ways * (wet - others) / (others + 1);
                fours = fours * 4;
            }
            for (int n = 0; n < wet; n++) {
                lower = lower * 5;
            }
            for (int n = 0; n < wet && upper % 5 == 0; n++) {
                upper = upper / 5;
                lower = lower / 5;
            }
        }

        void findForgotten(int can) {
            Arrays.fill(missing, 0);
            for (int day = 0; day < DAYS; day++) {
                if (garden.raws[can * DAYS + day] == NOTHING) {
                    missing[day % WEEK]++;
                }
            }
            weekday = 0;
            for (int n = 1; n < WEEK; n++) {
                if (missing[n] > missing[weekday]) {
                    weekday = n;
                }
            }
            forgotten = missing[weekday];
        }
    }
}
