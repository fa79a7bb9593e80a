import java.util.ArrayList;
import java.util.List;

/**
 * Long runs of calls, drawn from fixed seeds, on a BreakSearch and on a model that tries every way
 * there is, item by item, in the document's own words; every answer of the two has to be the same.
 */
public final class BreakSearchAgainstModel {
    private static final int RUNS = 6000;
    private static final int CALLS = 60;
    private static final int[] TIE_SIZES = {0, 0, 5, 10};
    private static final int[] PENALTIES = {-10000, -9999, -100, -50, -1, 0, 0, 1, 50, 100, 9999, 10000};

    private static int wrong = 0;

    /** One item, as it was given. */
    private static final class Item {
        char kind;
        int width;
        int stretch;
        int shrink;
        int p;
        boolean marked;
    }

    /** One line of a way. */
    private static final class Row {
        int end;
        int lacks;
        int badness;
        int sort;
        boolean ok;
    }

    private static final class Model {
        final List<Item> items = new ArrayList<>();
        final int[] widths = new int[50];
        final int[] settings = {100, 200, 0};
        List<Row> told = new ArrayList<>();
        long toldDemerits;
        int toldPass;

        List<Row> best;
        long bestDemerits;

        Model(int width) {
            for (int i = 0; i < 50; i++) {
                widths[i] = width & 0x3fff;
            }
        }

        int add(char kind, int width, int stretch, int shrink, int p, boolean marked) {
            if (width < 0 || width > 10000 || stretch < 0 || stretch > 10000 || shrink < 0 || shrink > 1000
                    || p < -10000 || p > 10000) {
                return -1;
            }
            if (items.size() == 100) {
                return -2;
            }
            Item item = new Item();
            item.kind = kind;
            item.width = width;
            item.stretch = stretch;
            item.shrink = shrink;
            item.p = p;
            item.marked = marked;
            items.add(item);
            return items.size() - 1;
        }

        boolean mayBreak(int at, int pass) {
            if (at == items.size()) {
                return true;
            }
            Item item = items.get(at);
            if (item.kind == 'g') {
                return at > 0 && items.get(at - 1).kind == 'b';
            }
            return item.kind == 'p' && item.p < 10000 && !(pass == 1 && item.marked);
        }

        boolean hasToBreak(int at) {
            return at == items.size() || items.get(at).kind == 'p' && items.get(at).p == -10000;
        }

        Row row(int from, int to, int number, int pass) {
            long length = 0;
            long stretch = pass == 3 ? settings[2] : 0;
            long shrink = 0;
            boolean counting = from < 0;
            for (int i = from + 1; i < to; i++) {
                Item item = items.get(i);
                if (item.kind == 'b') {
                    counting = true;
                }
                if (counting && item.kind != 'p') {
                    length += item.width;
                    stretch += item.stretch;
                    shrink += item.shrink;
                }
            }
            boolean last = to == items.size();
            if (!last && items.get(to).kind == 'p') {
                length += items.get(to).width;
            }
            long w = widths[number] - length;
            Row row = new Row();
            row.end = to;
            row.lacks = (int) w;
            row.ok = true;
            row.sort = 1;
            if (w > 0 && !last) {
                row.badness = ratio(w, stretch);
                row.sort = w > stretch ? 3 : 2 * w > stretch ? 2 : 1;
            } else if (w < 0) {
                row.ok = -w <= shrink;
                row.badness = row.ok ? ratio(-w, shrink) : 0;
                row.sort = -2 * w > shrink ? 0 : 1;
            }
            return row;
        }

        static int ratio(long w, long s) {
            if (s == 0) {
                return 10000;
            }
            java.math.BigInteger up = java.math.BigInteger.valueOf(w).pow(3).multiply(java.math.BigInteger.valueOf(100));
            java.math.BigInteger many = up.divide(java.math.BigInteger.valueOf(s).pow(3));
            return many.min(java.math.BigInteger.valueOf(10000)).intValue();
        }

        long demeritsOf(Row row, Row before) {
            long d = (10L + row.badness) * (10L + row.badness);
            boolean endsMarked = false;
            if (row.end < items.size() && items.get(row.end).kind == 'p') {
                long p = items.get(row.end).p;
                if (p >= 0) {
                    d += p * p;
                } else if (p > -10000) {
                    d -= p * p;
                }
                endsMarked = items.get(row.end).marked;
            }
            if (before != null) {
                if (endsMarked && items.get(before.end).kind == 'p' && items.get(before.end).marked) {
                    d += 3000;
                }
                if (Math.abs(row.sort - before.sort) > 1) {
                    d += 2000;
                }
            }
            return d;
        }

        /** All ways, the ones with earlier breaks first: so the first of equal ones is kept. */
        void tryAll(int from, List<Row> rows, long demerits, int pass, int just) {
            if (from == items.size()) {
                boolean fits = just == 0 || rows.size() == just;
                if (fits && (best == null || demerits < bestDemerits
                        || demerits == bestDemerits && rows.size() < best.size())) {
                    best = new ArrayList<>(rows);
                    bestDemerits = demerits;
                }
                return;
            }
            if (rows.size() == 50) {
                return;
            }
            for (int to = from + 1; to <= items.size(); to++) {
                if (mayBreak(to, pass)) {
                    Row row = row(from, to, rows.size(), pass);
                    if (row.ok && row.badness <= settings[pass == 1 ? 0 : 1]) {
                        Row before = rows.isEmpty() ? null : rows.get(rows.size() - 1);
                        rows.add(row);
                        tryAll(to, rows, demerits + demeritsOf(row, before), pass, just);
                        rows.remove(rows.size() - 1);
                    }
                }
                if (hasToBreak(to)) {
                    return;
                }
            }
        }

        boolean search(int pass, int just) {
            best = null;
            tryAll(-1, new ArrayList<>(), 0, pass, just);
            if (best == null) {
                return false;
            }
            told = best;
            toldDemerits = bestDemerits;
            toldPass = pass;
            return true;
        }

        int run() {
            told = new ArrayList<>();
            toldDemerits = 0;
            toldPass = 0;
            for (int pass = 1; pass <= 3; pass++) {
                if (search(pass, 0)) {
                    return told.size();
                }
            }
            return 0;
        }

        int loose(int lines) {
            if (lines < 1 || lines > 50 || told.isEmpty()) {
                return -1;
            }
            return search(toldPass, lines) ? 1 : 0;
        }

        int shape(int line, int width) {
            if (line < 0 || line > 49 || width < 0 || width > 10000) {
                return -1;
            }
            widths[line] = width;
            return 1;
        }

        int setting(int what, int v) {
            if (what < 0 || what > 2 || v > 10000 || v < (what == 2 ? 0 : -1)) {
                return -1;
            }
            settings[what] = v;
            return 1;
        }

        int clear() {
            int count = items.size();
            items.clear();
            return count;
        }
    }

    private static final class Dice {
        private long state;

        Dice(long seed) {
            state = seed * 0x9E3779B97F4A7C15L + 12345;
        }

        int below(int n) {
            state = state * 6364136223846793005L + 1442695040888963407L;
            return (int) ((state >>> 33) % n);
        }

        boolean once(int n) {
            return below(n) == 0;
        }
    }

    private final int run;
    private final Dice dice;
    private final int style;
    private final int mostItems;
    private final BreakSearch made;
    private final Model model;

    private BreakSearchAgainstModel(int itsRun) {
        run = itsRun;
        dice = new Dice(itsRun);
        style = dice.below(4);
        mostItems = 8 + dice.below(7);
        int width = style == 0 ? 5 * dice.below(7) : style == 1 ? 60 + dice.below(120) : dice.below(250);
        if (dice.once(10)) {
            width += 16384 * (dice.below(9) - 4);
        }
        made = new BreakSearch(width);
        model = new Model(width);
    }

    private void due(String call, long got, long want) {
        if (got != want) {
            wrong++;
            if (wrong <= 20) {
                System.out.println("run " + run + ": " + call + " answered " + got + ", due is " + want);
            }
        }
    }

    private int size() {
        if (dice.once(60)) {
            return dice.once(2) ? -1 : 10001;
        }
        return style == 0 ? TIE_SIZES[dice.below(4)] : dice.below(70);
    }

    private void box() {
        int width = size();
        due("box", made.box(width), model.add('b', width, 0, 0, 0, false));
    }

    private void glue() {
        int width = size() / 3;
        int stretch = size() / 2;
        int shrink = dice.once(60) ? 1001 : size() / 4;
        due("glue", made.glue(width, stretch, shrink), model.add('g', width, stretch, shrink, 0, false));
    }

    private void penalty() {
        int p = dice.once(50) ? 20002 * dice.below(2) - 10001 : PENALTIES[dice.below(PENALTIES.length)];
        int width = dice.once(2) ? 0 : size() / 4;
        boolean marked = dice.once(2);
        due("penalty", made.penalty(p, width, marked), model.add('p', width, 0, 0, p, marked));
    }

    private void change() {
        int which = dice.below(8);
        if (which < 3) {
            int line = dice.below(8) == 0 ? dice.below(54) - 2 : dice.below(5);
            int width = style == 0 ? 5 * dice.below(7) : dice.below(250) - 1;
            due("shape", made.shape(line, width), model.shape(line, width));
        } else if (which < 7) {
            int what = dice.below(5) - 1;
            int v = dice.once(3) ? 10000 : dice.once(6) ? 10001 : dice.below(400) - 2;
            due("setting", made.setting(what, v), model.setting(what, v));
        } else {
            due("clear", made.clear(), model.clear());
        }
    }

    private void find() {
        if (dice.once(2)) {
            due("run", made.run(), model.run());
        } else {
            int lines = dice.below(9) - 1;
            due("loose " + lines, made.loose(lines), model.loose(lines));
        }
        tell();
    }

    private void tell() {
        due("lines", made.lines(), model.told.size());
        due("demerits", made.demerits(), model.toldDemerits);
        due("pass", made.pass(), model.toldPass);
        for (int i = -1; i <= model.told.size(); i++) {
            boolean there = i >= 0 && i < model.told.size();
            due("at " + i, made.at(i), there ? model.told.get(i).end : -1);
            due("lacks " + i, made.lacks(i), there ? model.told.get(i).lacks : 0);
            due("badness " + i, made.badness(i), there ? model.told.get(i).badness : 0);
            due("classOf " + i, made.classOf(i), there ? model.told.get(i).sort : 0);
        }
    }

    private void play() {
        for (int call = 0; call < CALLS; call++) {
            int which = dice.below(12);
            if (which >= 10) {
                find();
            } else if (which == 9) {
                change();
            } else if (model.items.size() >= mostItems) {
                due("clear", made.clear(), model.clear());
            } else if (which < 4) {
                box();
            } else if (which < 7) {
                glue();
            } else {
                penalty();
            }
        }
        find();
    }

    public static void main(String[] args) {
        for (int run = 0; run < RUNS; run++) {
            new BreakSearchAgainstModel(run).play();
        }
        System.out.println(wrong == 0 ? RUNS + " runs answer as the model does" : wrong + " answers are not the model's");
        if (wrong != 0) {
            System.exit(1);
        }
    }
}
