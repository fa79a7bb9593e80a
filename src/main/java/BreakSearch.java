import java.util.Arrays;

/** A paragraph of boxes, glue and penalties, broken into lines in the best way of all. */
public final class BreakSearch {
    public static final int BAD = -1;
    public static final int FULL = -2;

    private static final int MOST_ITEMS = 100;
    private static final int MOST_LINES = 50;
    private static final int MOST_SIZE = 10000;
    private static final int MOST_SHRINK = 1000;
    private static final int MOST_PENALTY = 10000;
    private static final int MOST_BADNESS = 10000;
    private static final int WIDTH_BITS = (1 << 14) - 1;

    private static final int FIRST_TOLERANCE = 0;
    private static final int SECOND_TOLERANCE = 1;
    private static final int EMERGENCY = 2;
    private static final int SETTINGS = 3;

    private static final int FIRST_PASS = 1;
    private static final int LAST_PASS = 3;

    private static final int BOX = 0;
    private static final int GLUE = 1;
    private static final int PENALTY = 2;

    /** The break "before" the first line, in the places where a break's item number stands. */
    private static final int BEGINNING = -1;

    private final Items items;
    private final Rules rules;
    private final Search search;
    private final Way told;

    public BreakSearch(int width) {
        items = new Items();
        rules = new Rules(width & WIDTH_BITS);
        search = new Search(items, rules);
        told = new Way();
    }

    public int box(int width) {
        if (!isWithin(width, 0, MOST_SIZE)) {
            return BAD;
        }
        return items.append(BOX, width, 0, 0);
    }

    public int glue(int width, int stretch, int shrink) {
        if (!isWithin(width, 0, MOST_SIZE) || !isWithin(stretch, 0, MOST_SIZE)
                || !isWithin(shrink, 0, MOST_SHRINK)) {
            return BAD;
        }
        return items.append(GLUE, width, stretch, shrink);
    }

    public int penalty(int p, int width, boolean marked) {
        if (!isWithin(p, -MOST_PENALTY, MOST_PENALTY) || !isWithin(width, 0, MOST_SIZE)) {
            return BAD;
        }
        return items.appendPenalty(p, width, marked);
    }

    public int shape(int line, int width) {
        if (!isWithin(line, 0, MOST_LINES - 1) || !isWithin(width, 0, MOST_SIZE)) {
            return BAD;
        }
        rules.widths[line] = width;
        return 1;
    }

    public int setting(int what, int v) {
        if (!isWithin(what, 0, SETTINGS - 1)) {
            return BAD;
        }
        int least = what == EMERGENCY ? 0 : -1;
        if (!isWithin(v, least, MOST_SIZE)) {
            return BAD;
        }
        rules.settings[what] = v;
        return 1;
    }

    public int run() {
        told.forget();
        for (int pass = FIRST_PASS; pass <= LAST_PASS; pass++) {
            if (search.findsWay(pass, Search.ANY_LINES)) {
                search.tell(told);
                return told.count;
            }
        }
        return 0;
    }

    public int loose(int lines) {
        if (!isWithin(lines, 1, MOST_LINES) || told.count == 0) {
            return BAD;
        }
        if (!search.findsWay(told.pass, lines)) {
            return 0;
        }
        search.tell(told);
        return 1;
    }

    public int lines() {
        return told.count;
    }

    public int at(int line) {
        return told.hasLine(line) ? told.ends[line] : -1;
    }

    public int lacks(int line) {
        return told.hasLine(line) ? told.lacks[line] : 0;
    }

    public int badness(int line) {
        return told.hasLine(line) ? told.badnesses[line] : 0;
    }

    public int classOf(int line) {
        return told.hasLine(line) ? told.classes[line] : 0;
    }

    public long demerits() {
        return told.demerits;
    }

    public int pass() {
        return told.pass;
    }

    public int clear() {
        int count = items.count;
        items.count = 0;
        return count;
    }

    private static boolean isWithin(int v, int least, int most) {
        return v >= least && v <= most;
    }

    /** The paragraph, with sums over its boxes and glue, so that any line is measured at once. */
    private static final class Items {
        private final int[] kinds = new int[MOST_ITEMS];
        private final int[] values = new int[MOST_ITEMS];
        private final int[] penaltyWidths = new int[MOST_ITEMS];
        private final boolean[] marks = new boolean[MOST_ITEMS];
        /** Sums over what stands before an item, or before the END. */
        private final int[] lengthBefore = new int[MOST_ITEMS + 1];
        private final int[] stretchBefore = new int[MOST_ITEMS + 1];
        private final int[] shrinkBefore = new int[MOST_ITEMS + 1];
        private int count;

        private int append(int kind, int length, int stretch, int shrink) {
            if (count >= MOST_ITEMS) {
                return FULL;
            }
            int item = count;
            kinds[item] = kind;
            lengthBefore[item + 1] = lengthBefore[item] + length;
            stretchBefore[item + 1] = stretchBefore[item] + stretch;
            shrinkBefore[item + 1] = shrinkBefore[item] + shrink;
            count = item + 1;
            return item;
        }

        /** A penalty adds nothing to the sums: only the line that ends at it has its width. */
        private int appendPenalty(int value, int width, boolean marked) {
            int item = append(PENALTY, 0, 0, 0);
            if (item >= 0) {
                values[item] = value;
                penaltyWidths[item] = width;
                marks[item] = marked;
            }
            return item;
        }

        private boolean isEnd(int place) {
            return place >= count;
        }

        private boolean isKind(int item, int kind) {
            return item >= 0 && item < count && kinds[item] == kind;
        }

        private boolean isMarked(int place) {
            return isKind(place, PENALTY) && marks[place];
        }

        private boolean mayBreakAt(int place, boolean marksToo) {
            if (isKind(place, GLUE)) {
                return isKind(place - 1, BOX);
            }
            if (isKind(place, PENALTY)) {
                return values[place] < MOST_PENALTY && (marksToo || !marks[place]);
            }
            return isEnd(place);
        }

        private boolean hasToBreakAt(int place) {
            return isEnd(place) || isKind(place, PENALTY) && values[place] == -MOST_PENALTY;
        }

        /** The first item that counts in a line behind this break, whichever break ends it. */
        private int startBehind(int from) {
            if (from < 0) {
                return 0;
            }
            int item = from + 1;
            while (item < count && kinds[item] != BOX) {
                item++;
            }
            return item;
        }

        private int widthEndingAt(int place) {
            return isKind(place, PENALTY) ? penaltyWidths[place] : 0;
        }

        private long penaltyDemerits(int place) {
            if (!isKind(place, PENALTY) || values[place] == -MOST_PENALTY) {
                return 0;
            }
            long p = values[place];
            return p < 0 ? -p * p : p * p;
        }
    }

    /** What a caller sets besides the items, and what each pass makes of it. */
    private static final class Rules {
        private final int[] widths = new int[MOST_LINES];
        private final int[] settings = new int[SETTINGS];

        private Rules(int width) {
            Arrays.fill(widths, width);
            settings[FIRST_TOLERANCE] = 100;
            settings[SECOND_TOLERANCE] = 200;
        }

        private int toleranceIn(int pass) {
            return settings[pass == FIRST_PASS ? FIRST_TOLERANCE : SECOND_TOLERANCE];
        }

        private boolean breaksAtMarksIn(int pass) {
            return pass != FIRST_PASS;
        }

        private int moreStretchIn(int pass) {
            return pass == LAST_PASS ? settings[EMERGENCY] : 0;
        }
    }

    /** One line as it was measured last; one object serves for all lines. */
    private static final class Line {
        private static final int TIGHT = 0;
        private static final int EVEN = 1;
        private static final int WIDE = 2;
        private static final int VERY_WIDE = 3;
        private static final int CLASSES = 4;

        private int lack;
        private int ugliness;
        private int looks;
        private boolean stands;

        /** Start may stand behind the end: then nothing but the end's own width is in the line. */
        private void measure(Items items, int start, int end, int width, int moreStretch) {
            int first = Math.min(start, end);
            int length = items.lengthBefore[end] - items.lengthBefore[first];
            lack = width - length - items.widthEndingAt(end);
            if (lack < 0) {
                squeeze(items.shrinkBefore[end] - items.shrinkBefore[first]);
            } else if (lack == 0 || items.isEnd(end)) {
                settle(0, EVEN);
            } else {
                widen(items.stretchBefore[end] - items.stretchBefore[first] + moreStretch);
            }
        }

        private void settle(int badnessNow, int looksNow) {
            stands = true;
            ugliness = badnessNow;
            looks = looksNow;
        }

        private void squeeze(int shrink) {
            int over = -lack;
            if (over > shrink) {
                stands = false;
                return;
            }
            settle(badnessOf(over, shrink), 2 * over > shrink ? TIGHT : EVEN);
        }

        private void widen(int stretch) {
            int howWide = EVEN;
            if (lack > stretch) {
                howWide = VERY_WIDE;
            } else if (2 * lack > stretch) {
                howWide = WIDE;
            }
            settle(badnessOf(lack, stretch), howWide);
        }

        private static int badnessOf(int gap, int give) {
            if (give <= 0) {
                return MOST_BADNESS;
            }
            // In longs: a stretch of a million has a cube far above any int.
            long wanted = (long) gap * gap * gap;
            long given = (long) give * give * give;
            return (int) Math.min(100 * wanted / given, MOST_BADNESS);
        }

        private boolean isToleratedBy(int tolerance) {
            return stands && ugliness <= tolerance;
        }

        private static boolean isUnlike(int looksBefore, int looksNow) {
            return Math.abs(looksBefore - looksNow) > 1;
        }
    }

    /**
     * The search for the best way, from the END back to the beginning: what the rest of a way
     * costs hangs on the last break, on how many lines stand before it (the next line's width
     * hangs on that) and on the class of the line that ends there.
     */
    private static final class Search {
        private static final int ANY_LINES = 0;

        private static final int PLACES = MOST_ITEMS + 2;
        private static final int LINE_COUNTS = MOST_LINES + 1;
        private static final int CELLS = PLACES * LINE_COUNTS * Line.CLASSES;
        private static final long NO_WAY = Long.MAX_VALUE;

        private static final long LINE_DEMERITS = 10;
        private static final long MARKED_DEMERITS = 3000;
        private static final long UNLIKE_DEMERITS = 2000;
        /** A cost is demerits times this, and 1 for each line: so of equal demerits fewer lines win. */
        private static final long DEMERIT = 64;

        private final Items items;
        private final Rules rules;
        private final Line line = new Line();
        private final long[] costs = new long[CELLS];
        private final byte[] nextBreaks = new byte[CELLS];
        private int pass;

        private Search(Items itsItems, Rules itsRules) {
            items = itsItems;
            rules = itsRules;
        }

        private static int cellOf(int place, int linesBefore, int looks) {
            return ((place + 1) * LINE_COUNTS + linesBefore) * Line.CLASSES + looks;
        }

        private boolean findsWay(int inPass, int lineCount) {
            pass = inPass;
            closeAll();
            openEnd(lineCount);
            boolean marksToo = rules.breaksAtMarksIn(pass);
            for (int from = items.count - 1; from >= BEGINNING; from--) {
                if (from == BEGINNING || items.mayBreakAt(from, marksToo)) {
                    tryLinesBehind(from, marksToo);
                }
            }
            return costs[cellOf(BEGINNING, 0, 0)] != NO_WAY;
        }

        private void closeAll() {
            int used = cellOf(items.count + 1, 0, 0);
            for (int cell = 0; cell < used && cell < CELLS; cell++) {
                costs[cell] = NO_WAY;
            }
        }

        private void openEnd(int lineCount) {
            int least = lineCount == ANY_LINES ? 1 : lineCount;
            int most = lineCount == ANY_LINES ? MOST_LINES : lineCount;
            for (int lines = least; lines <= most; lines++) {
                for (int looks = 0; looks < Line.CLASSES; looks++) {
                    costs[cellOf(items.count, lines, looks)] = 0;
                }
            }
        }

        private void tryLinesBehind(int from, boolean marksToo) {
            int start = items.startBehind(from);
            for (int to = from + 1; to <= items.count; to++) {
                if (items.mayBreakAt(to, marksToo)) {
                    tryLine(from, start, to);
                }
                if (items.hasToBreakAt(to)) {
                    return;
                }
            }
        }

        private void tryLine(int from, int start, int to) {
            int tolerance = rules.toleranceIn(pass);
            int moreStretch = rules.moreStretchIn(pass);
            int least = from == BEGINNING ? 0 : 1;
            int most = Math.min(from + 1, MOST_LINES - 1);
            for (int number = least; number <= most; number++) {
                // Measuring is dear, and most lines are as wide as the one before.
                if (number == least || rules.widths[number] != rules.widths[number - 1]) {
                    line.measure(items, start, to, rules.widths[number], moreStretch);
                }
                if (line.isToleratedBy(tolerance)) {
                    enterLine(from, to, number);
                }
            }
        }

        /** Only a lower cost is entered: of equal ones the earlier break, tried first, stays. */
        private void enterLine(int from, int to, int number) {
            long rest = costs[cellOf(to, number + 1, line.looks)];
            if (rest == NO_WAY) {
                return;
            }
            long cost = rest + 1 + DEMERIT * demeritsOfLine(from, to);
            for (int looksBefore = 0; looksBefore < Line.CLASSES; looksBefore++) {
                boolean unlike = from != BEGINNING && Line.isUnlike(looksBefore, line.looks);
                long whole = unlike ? cost + DEMERIT * UNLIKE_DEMERITS : cost;
                int cell = cellOf(from, number, looksBefore);
                if (whole < costs[cell]) {
                    costs[cell] = whole;
                    nextBreaks[cell] = (byte) to;
                }
            }
        }

        private long demeritsOfLine(int from, int to) {
            long own = LINE_DEMERITS + line.ugliness;
            long sum = own * own + items.penaltyDemerits(to);
            return items.isMarked(from) && items.isMarked(to) ? sum + MARKED_DEMERITS : sum;
        }

        /** To be called only when findsWay has just found one. */
        private void tell(Way way) {
            way.forget();
            way.pass = pass;
            way.demerits = Math.floorDiv(costs[cellOf(BEGINNING, 0, 0)], DEMERIT);
            int from = BEGINNING;
            int looks = 0;
            for (int number = 0; number < MOST_LINES && from < items.count; number++) {
                int to = nextBreaks[cellOf(from, number, looks)];
                if (to <= from || to > items.count) {
                    return;
                }
                line.measure(items, items.startBehind(from), to, rules.widths[number],
                        rules.moreStretchIn(pass));
                way.append(to, line);
                from = to;
                looks = line.looks;
            }
        }
    }

    /** A way as it was when it was found, whatever becomes of the items and settings. */
    private static final class Way {
        private final int[] ends = new int[MOST_LINES];
        private final int[] lacks = new int[MOST_LINES];
        private final int[] badnesses = new int[MOST_LINES];
        private final int[] classes = new int[MOST_LINES];
        private int count;
        private int pass;
        private long demerits;

        private void forget() {
            count = 0;
            pass = 0;
            demerits = 0;
        }

        private void append(int end, Line line) {
            if (count >= MOST_LINES) {
                return;
            }
            ends[count] = end;
            lacks[count] = line.lack;
            badnesses[count] = line.ugliness;
            classes[count] = line.looks;
            count++;
        }

        private boolean hasLine(int number) {
            return number >= 0 && number < count;
        }
    }
}
