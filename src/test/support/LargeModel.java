import java.util.ArrayDeque;
import java.util.ArrayList;
import java.util.Deque;
import java.util.HashMap;
import java.util.List;
import java.util.Map;

/**
 * The same model for paragraphs that have too many ways to try them all: line by line from the
 * beginning, it keeps the best row of lines up to each break, for each class of its last line.
 */
final class LargeModel extends Model {
    private static final int MOST_LINES = 50;

    /** Lines from the beginning up to a break. */
    private static final class Part {
        final Part before;
        final Row last;
        final long demerits;

        Part(Part itsBefore, Row itsLast, long itsDemerits) {
            before = itsBefore;
            last = itsLast;
            demerits = itsDemerits;
        }

        List<Row> rows() {
            Deque<Row> rows = new ArrayDeque<>();
            for (Part part = this; part.last != null; part = part.before) {
                rows.addFirst(part.last);
            }
            return new ArrayList<>(rows);
        }
    }

    private final Map<List<Integer>, Row> known = new HashMap<>();

    LargeModel(int width) {
        super(width);
    }

    @Override
    void findBest(int pass, int just) {
        known.clear();
        Map<List<Integer>, Part> parts = Map.of(List.of(-1, 0), new Part(null, null, 0));
        for (int number = 0; number < MOST_LINES; number++) {
            Map<List<Integer>, Part> longer = new HashMap<>();
            for (Part part : parts.values()) {
                addLine(part, number, pass, longer);
            }
            for (int sort = 0; sort < 4; sort++) {
                Part whole = longer.get(List.of(items.size(), sort));
                if (whole != null && (just == 0 || just == number + 1)) {
                    keepIfBest(whole);
                }
            }
            parts = longer;
        }
    }

    private void addLine(Part part, int number, int pass, Map<List<Integer>, Part> longer) {
        int from = part.last == null ? -1 : part.last.end;
        for (int to = from + 1; to <= items.size(); to++) {
            if (mayBreak(to, pass)) {
                Row row = knownRow(from, to, number, pass);
                if (isTolerated(row, pass)) {
                    Part next = new Part(part, row, part.demerits + demeritsOf(row, part.last));
                    longer.merge(List.of(to, row.sort), next, LargeModel::better);
                }
            }
            if (hasToBreak(to)) {
                return;
            }
        }
    }

    private Row knownRow(int from, int to, int number, int pass) {
        return known.computeIfAbsent(List.of(from, to, widths[number]), key -> row(from, to, number, pass));
    }

    /** Of parts with as many lines: the one with less demerits, or with the earlier first breaks. */
    private static Part better(Part a, Part b) {
        if (a.demerits != b.demerits) {
            return a.demerits < b.demerits ? a : b;
        }
        List<Row> as = a.rows();
        List<Row> bs = b.rows();
        for (int i = 0; i < as.size(); i++) {
            if (as.get(i).end != bs.get(i).end) {
                return as.get(i).end < bs.get(i).end ? a : b;
            }
        }
        return a;
    }

    /** Ways with fewer lines come first, so one with more has to have less demerits. */
    private void keepIfBest(Part whole) {
        boolean asLong = best != null && best.size() == whole.rows().size();
        if (best == null || whole.demerits < bestDemerits
                || asLong && whole.demerits == bestDemerits && isEarlier(whole.rows(), best)) {
            best = whole.rows();
            bestDemerits = whole.demerits;
        }
    }

    private static boolean isEarlier(List<Row> as, List<Row> bs) {
        for (int i = 0; i < as.size(); i++) {
            if (as.get(i).end != bs.get(i).end) {
                return as.get(i).end < bs.get(i).end;
            }
        }
        return false;
    }
}
