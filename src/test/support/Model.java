import java.math.BigInteger;
import java.util.ArrayList;
import java.util.List;

/**
 * The document in its own words, item by item, as slow as that is: it tries every way there is. What
 * it answers is what a BreakSearch has to answer.
 */
class Model {
    /** One item, as it was given. */
    static final class Item {
        char kind;
        int width;
        int stretch;
        int shrink;
        int p;
        boolean marked;
    }

    /** One line of a way. */
    static final class Row {
        int end;
        int lacks;
        int badness;
        int sort;
        boolean ok;
    }

    final List<Item> items = new ArrayList<>();
    final int[] widths = new int[50];
    final int[] settings = {100, 200, 0};
    List<Row> told = new ArrayList<>();
    long toldDemerits;
    int toldPass;

    List<Row> best;
    long bestDemerits;

    Model(int width) {
        for (int i = 0; i < 50; i++) {
            widths[i] = width & 0x3fff;
        }
    }

    int add(char kind, int width, int stretch, int shrink, int p, boolean marked) {
        if (width < 0 || width > 10000 || stretch < 0 || stretch > 10000 || shrink < 0 || shrink > 1000
                || p < -10000 || p > 10000) {
            return -1;
        }
        if (items.size() == 100) {
            return -2;
        }
        Item item = new Item();
        item.kind = kind;
        item.width = width;
        item.stretch = stretch;
        item.shrink = shrink;
        item.p = p;
        item.marked = marked;
        items.add(item);
        return items.size() - 1;
    }

    boolean mayBreak(int at, int pass) {
        if (at == items.size()) {
            return true;
        }
        Item item = items.get(at);
        if (item.kind == 'g') {
            return at > 0 && items.get(at - 1).kind == 'b';
        }
        return item.kind == 'p' && item.p < 10000 && !(pass == 1 && item.marked);
    }

    boolean hasToBreak(int at) {
        return at == items.size() || items.get(at).kind == 'p' && items.get(at).p == -10000;
    }

    Row row(int from, int to, int number, int pass) {
        long length = 0;
        long stretch = pass == 3 ? settings[2] : 0;
        long shrink = 0;
        boolean counting = from < 0;
        for (int i = from + 1; i < to; i++) {
            Item item = items.get(i);
            if (item.kind == 'b') {
                counting = true;
            }
            if (counting && item.kind != 'p') {
                length += item.width;
                stretch += item.stretch;
                shrink += item.shrink;
            }
        }
        boolean last = to == items.size();
        if (!last && items.get(to).kind == 'p') {
            length += items.get(to).width;
        }
        long w = widths[number] - length;
        Row row = new Row();
        row.end = to;
        row.lacks = (int) w;
        row.ok = true;
        row.sort = 1;
        if (w > 0 && !last) {
            row.badness = ratio(w, stretch);
            row.sort = w > stretch ? 3 : 2 * w > stretch ? 2 : 1;
        } else if (w < 0) {
            row.ok = -w <= shrink;
            row.badness = row.ok ? ratio(-w, shrink) : 0;
            row.sort = -2 * w > shrink ? 0 : 1;
        }
        return row;
    }

    boolean isTolerated(Row row, int pass) {
        return row.ok && row.badness <= settings[pass == 1 ? 0 : 1];
    }

    static int ratio(long w, long s) {
        if (s == 0) {
            return 10000;
        }
        BigInteger up = BigInteger.valueOf(w).pow(3).multiply(BigInteger.valueOf(100));
        BigInteger many = up.divide(BigInteger.valueOf(s).pow(3));
        return many.min(BigInteger.valueOf(10000)).intValue();
    }

    long demeritsOf(Row row, Row before) {
        long d = (10L + row.badness) * (10L + row.badness);
        boolean endsMarked = false;
        if (row.end < items.size() && items.get(row.end).kind == 'p') {
            long p = items.get(row.end).p;
            if (p >= 0) {
                d += p * p;
            } else if (p > -10000) {
                d -= p * p;
            }
            endsMarked = items.get(row.end).marked;
        }
        if (before != null) {
            if (endsMarked && items.get(before.end).kind == 'p' && items.get(before.end).marked) {
                d += 3000;
            }
            if (Math.abs(row.sort - before.sort) > 1) {
                d += 2000;
            }
        }
        return d;
    }

    /** All ways, the ones with earlier breaks first: so the first of equal ones is kept. */
    void tryAll(int from, List<Row> rows, long demerits, int pass, int just) {
        if (from == items.size()) {
            boolean fits = just == 0 || rows.size() == just;
            if (fits && (best == null || demerits < bestDemerits
                    || demerits == bestDemerits && rows.size() < best.size())) {
                best = new ArrayList<>(rows);
                bestDemerits = demerits;
            }
            return;
        }
        if (rows.size() == 50) {
            return;
        }
        for (int to = from + 1; to <= items.size(); to++) {
            if (mayBreak(to, pass)) {
                Row row = row(from, to, rows.size(), pass);
                if (isTolerated(row, pass)) {
                    Row before = rows.isEmpty() ? null : rows.get(rows.size() - 1);
                    rows.add(row);
                    tryAll(to, rows, demerits + demeritsOf(row, before), pass, just);
                    rows.remove(rows.size() - 1);
                }
            }
            if (hasToBreak(to)) {
                return;
            }
        }
    }

    /** Leaves the best way of the pass in best, or null; with just so many lines, when just is not 0. */
    void findBest(int pass, int just) {
        tryAll(-1, new ArrayList<>(), 0, pass, just);
    }

    final boolean search(int pass, int just) {
        best = null;
        findBest(pass, just);
        if (best == null) {
            return false;
        }
        told = best;
        toldDemerits = bestDemerits;
        toldPass = pass;
        return true;
    }

    int run() {
        told = new ArrayList<>();
        toldDemerits = 0;
        toldPass = 0;
        for (int pass = 1; pass <= 3; pass++) {
            if (search(pass, 0)) {
                return told.size();
            }
        }
        return 0;
    }

    int loose(int lines) {
        if (lines < 1 || lines > 50 || told.isEmpty()) {
            return -1;
        }
        return search(toldPass, lines) ? 1 : 0;
    }

    int shape(int line, int width) {
        if (line < 0 || line > 49 || width < 0 || width > 10000) {
            return -1;
        }
        widths[line] = width;
        return 1;
    }

    int setting(int what, int v) {
        if (what < 0 || what > 2 || v > 10000 || v < (what == 2 ? 0 : -1)) {
            return -1;
        }
        settings[what] = v;
        return 1;
    }

    int clear() {
        int count = items.size();
        items.clear();
        return count;
    }
}
