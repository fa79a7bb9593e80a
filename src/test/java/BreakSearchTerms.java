/** The document's "Terms": each sentence that names a bound or a case of its own has a test here. */
public final class BreakSearchTerms {
    private static final int MARK_FEE = 3000;
    private static final int CLASS_FEE = 2000;
    private static final long WORST_LINE = 10010L * 10010;

    private static void terms(String words) {
        Due.by("Terms", words);
    }

    // Items

    private static void numberedFromZeroAtMost100() {
        terms("ITEMS are numbered from 0, at most 100");
        for (int kind = 0; kind < 3; kind++) {
            BreakSearch x = new BreakSearch(0);
            for (int i = 0; i < 100; i++) {
                Due.answer("item " + i + " of kind " + kind, addKind(x, kind), i);
            }
            for (int more = 0; more < 3; more++) {
                Due.answer("item 100 of kind " + more, addKind(x, more), BreakSearch.FULL);
            }
            Due.answer("clear()", x.clear(), 100);
        }
        BreakSearch mixed = new BreakSearch(0);
        for (int i = 0; i < 100; i++) {
            Due.answer("item " + i, addKind(mixed, i % 3), i);
        }
    }

    private static int addKind(BreakSearch x, int kind) {
        return kind == 0 ? x.box(1) : kind == 1 ? x.glue(1, 1, 1) : x.penalty(1, 1, false);
    }

    private static void penaltyValues() {
        terms("a PENALTY a value p, -10000 .. 10000, a width, and may be MARKED");
        int[] values = {-10001, -10000, -9999, 0, 9999, 10000, 10001};
        BreakSearch x = new BreakSearch(0);
        int number = 0;
        for (int p : values) {
            for (boolean marked : new boolean[] {false, true}) {
                boolean good = p >= -10000 && p <= 10000;
                Due.answer("penalty(" + p + ", 0, " + marked + ")", x.penalty(p, 0, marked), good ? number++ : -1);
            }
        }
    }

    private static void sizes() {
        terms("Widths and stretches are 0 .. 10000, shrinks 0 .. 1000");
        int[] tried = {-1, 0, 1000, 1001, 10000, 10001};
        BreakSearch x = new BreakSearch(0);
        int number = 0;
        for (int v : tried) {
            boolean size = v >= 0 && v <= 10000;
            boolean shrink = v >= 0 && v <= 1000;
            Due.answer("box(" + v + ")", x.box(v), size ? number++ : -1);
            Due.answer("glue(" + v + ", 0, 0)", x.glue(v, 0, 0), size ? number++ : -1);
            Due.answer("glue(0, " + v + ", 0)", x.glue(0, v, 0), size ? number++ : -1);
            Due.answer("glue(0, 0, " + v + ")", x.glue(0, 0, v), shrink ? number++ : -1);
            Due.answer("penalty(0, " + v + ", false)", x.penalty(0, v, false), size ? number++ : -1);
        }
    }

    private static void theEnd() {
        terms("Behind the last item stands, as the END, glue of width 0");
        BreakSearch x = Made.found(10, "box:10");
        Due.way(x, 1, 100, 1);
        Due.line(x, 0, 0, 0, 1);
        BreakSearch empty = Made.found(10, "");
        Due.way(empty, 1, 100, 0);
        Due.line(empty, 0, 10, 0, 1);
        BreakSearch full = Made.found(10, Made.times(100, "box:0"));
        Due.way(full, 1, 100, 100);

        terms("that stretches as far as one likes");
        BreakSearch y = Made.plain(16383, "box:0");
        y.setting(0, 0);
        Due.answer("run()", y.run(), 1);
        Due.line(y, 0, 16383, 0, 1);
        Due.answer("run(): it does not shrink", Made.open(10, "box:11").run(), 0);

        terms("and a break that has to be");
        BreakSearch z = Made.found(10, "box:10 pen:-10000");
        Due.way(z, 1, 200, 1, 2);
        Due.line(z, 1, 10, 0, 1);
        Due.answer("run(): a break at the last item stands for none", Made.open(10, "box:10 glue:0 box:11").run(), 0);
    }

    // Breaks

    private static void breakAtGlue() {
        terms("A BREAK may be at glue that has a box right before it");
        Due.way(Made.found(10, "box:10 glue:3 box:10"), 1, 200, 1, 3);
        Due.way(Made.found(10, "box:5 glue:5 box:10"), 1, WORST_LINE + 100 + CLASS_FEE, 1, 3);
        BreakSearch first = Made.open(10, "glue:0 box:10");
        first.shape(0, 0);
        Due.answer("run(): not at item 0", first.run(), 0);
        BreakSearch behindGlue = Made.plain(10, "box:10 glue:5 glue:0 box:10");
        behindGlue.shape(0, 15);
        Due.answer("run(): not at glue behind glue", behindGlue.run(), 0);
        Due.answer("run(): not at glue behind a penalty", Made.open(10, "box:10 pen:10000 glue:0 box:10").run(), 0);
        Due.answer("run(): not at a box", Made.open(10, "box:10 box:10").run(), 0);
    }

    private static void breakAtPenalty() {
        terms("at a penalty with p below 10000");
        Due.way(Made.found(10, "box:10 pen:9999 box:10"), 1, 200 + 9999L * 9999, 1, 3);
        Due.answer("run(): not at 10000", Made.open(10, "box:10 pen:10000 box:10").run(), 0);
        BreakSearch marked = Made.open(10, "box:10 mark:10000 box:10");
        marked.setting(1, 10000);
        Due.answer("run(): not at a marked 10000", marked.run(), 0);
        Due.way(Made.found(10, "box:8 glue:2 pen:0 box:10"), 1, 200, 2, 4);
        BreakSearch first = Made.plain(10, "pen:0 box:10");
        first.shape(0, 0);
        Due.answer("run(): at item 0", first.run(), 2);
        Due.way(first, 1, 200, 0, 2);
    }

    private static void breakAtTheEnd() {
        terms("A BREAK .. is at the END");
        Due.way(Made.found(10, "box:5 glue:1"), 1, 100, 2);
        Due.way(Made.found(10, "box:5 pen:0"), 1, 100, 2);
        Due.way(Made.found(10, "box:5 pen:10000"), 1, 100, 2);
        Due.way(Made.found(10, "box:5 box:5"), 1, 100, 2);
    }

    private static void breakThatHasToBe() {
        terms("and it has to be at a penalty of -10000");
        long ragged = WORST_LINE + 100 + CLASS_FEE;
        Due.way(Made.found(100, "box:10 pen:-10000 box:10"), 1, ragged, 1, 3);
        Due.answer("loose(1)", Made.found(100, "box:10 pen:-10000 box:10").loose(1), 0);
        Due.way(Made.found(100, "pen:-10000"), 1, ragged, 0, 1);
        Due.way(Made.found(100, "box:10 pen:-10000 pen:-10000 glue:5 pen:-10000"), 1, 3 * WORST_LINE + 100 + CLASS_FEE,
                1, 2, 4, 5);
        BreakSearch free = Made.found(100, "box:10 pen:-9999 box:10");
        Due.way(free, 1, 100, 3);
        Due.answer("loose(2)", free.loose(2), 1);
        Due.way(free, 1, ragged - 9999L * 9999, 1, 3);
    }

    private static void markedBreakThatHasToBe() {
        terms("where it may not be, at a marked one in pass 1, there is no way in that pass");
        BreakSearch x = Made.open(100, "box:10 mark:-10000 box:10");
        x.setting(1, -1);
        Due.answer("run(): no leap over it", x.run(), 0);
        BreakSearch y = Made.open(10, "box:10 mark:-10000 box:10");
        y.setting(1, -1);
        Due.answer("run(): no break at it", y.run(), 0);
        y.setting(1, 0);
        Due.answer("run()", y.run(), 2);
        Due.way(y, 2, 200, 1, 3);
        y.clear();
        Made.add(y, "box:10 pen:-10000 box:10");
        y.run();
        Due.way(y, 1, 200, 1, 3);
    }

    // Lines

    private static void firstLineHasAllItems() {
        terms("A LINE goes from behind a break (the first one from the beginning, with all items there)");
        BreakSearch x = Made.found(10, "glue:2 box:8 pen:-10000 box:10");
        Due.line(x, 0, 0, 0, 1);
        BreakSearch noBox = Made.found(10, "pen:10000:9 glue:4:12:0 pen:-10000 box:10");
        Due.line(noBox, 0, 6, 12, 1);
        BreakSearch shrunk = Made.found(10, "glue:4:0:2 box:7 pen:-10000 box:10");
        Due.line(shrunk, 0, -1, 12, 1);
    }

    private static void behindABreak() {
        terms("what glue and penalties stand behind the break up to the next box .. is not in it");
        String dropped = "box:10 pen:-10000 glue:3:9:9 pen:10000:7 glue:4:9:9 ";
        Due.line(Made.found(10, dropped + "box:5"), 1, 5, 0, 1);
        Due.line(Made.found(10, dropped + "box:5 pen:-10000"), 1, 5, 10000, 3);
        Due.answer("run(): its shrink is not in it", Made.open(10, dropped + "box:11").run(), 0);
        Due.line(Made.found(10, "box:10 glue:6:9:9 box:5 pen:-10000"), 1, 5, 10000, 3);
        Due.line(Made.found(10, "box:10 pen:-10000 box:4 glue:1 box:3"), 1, 2, 0, 1);
        Due.line(Made.found(10, "box:10 pen:-10000 glue:9 box:4 glue:1:0:0 pen:-10000"), 1, 5, 10000, 3);
    }

    private static void ownBreakFirst() {
        terms("or the line's own break if that comes first");
        BreakSearch x = Made.found(10, "box:10 pen:-10000 glue:3:9:9 pen:-10000:4 glue:5 box:3");
        Due.ends(x, 1, 3, 6);
        Due.line(x, 1, 6, 10000, 3);
        Due.line(x, 2, 7, 0, 1);
        Due.line(Made.found(10, "box:10 pen:-10000 pen:-10000"), 1, 10, 10000, 3);
        Due.line(Made.found(10, "box:10 pen:-10000 glue:3 glue:2"), 1, 10, 0, 1);
        Due.line(Made.found(10, "box:10 pen:-10000"), 1, 10, 0, 1);
        Due.answer("run(): the penalty may be too wide", Made.open(10, "box:10 pen:-10000 pen:-10000:11").run(), 0);
    }

    private static void glueAtWhichItEnds() {
        terms("nor is glue at which it ends");
        Due.way(Made.found(10, "box:10 glue:6:9:9 box:10"), 1, 200, 1, 3);
        BreakSearch wide = Made.open(12, "box:10 glue:0:5:0 box:12 pen:-10000");
        wide.shape(0, 11);
        Due.answer("run()", wide.run(), 3);
        Due.line(wide, 0, 1, 10000, 3);
        BreakSearch tight = Made.open(12, "box:10 glue:0:0:5 box:12");
        tight.shape(0, 9);
        Due.answer("run(): its shrink is not in it", tight.run(), 0);
    }

    private static void otherPenalties() {
        terms("nor are other penalties");
        Due.way(Made.found(10, "box:4 pen:10000:5 box:6"), 1, 100, 3);
        Due.way(Made.found(10, "box:4 pen:0:5 box:6"), 1, 100, 3);
        Due.line(Made.found(10, "pen:10000:5 box:4 mark:9999:5 box:6 pen:-10000"), 0, 0, 0, 1);
    }

    private static void penaltyAtWhichItEnds() {
        terms("a penalty at which it ends gives its width");
        Due.line(Made.found(10, "box:4 pen:-10000:6 box:10"), 0, 0, 0, 1);
        Due.line(Made.found(10000, "pen:-10000:10000"), 0, 0, 0, 1);
        Due.answer("run()", Made.open(10, "box:4 pen:-10000:7 box:1").run(), 0);
        Due.line(Made.found(10, "box:4 glue:0:0:1 box:0 pen:-10000:7"), 0, -1, 100, 0);
    }

    private static void sums() {
        terms("Its LENGTH is the sum of all widths in it, likewise its stretch and shrink");
        BreakSearch x = Made.found(100, "glue:1:10:500 box:20 glue:2:20:600 box:30 pen:0:4 glue:3:40:700 pen:-10000:6");
        Due.line(x, 0, 38, 15, 2);
        Due.line(Made.found(10000, Made.times(98, "glue:0:10000") + " pen:-10000"), 0, 10000, 0, 1);
        Due.line(Made.found(0, Made.times(98, "glue:990:0:1000") + " pen:-10000"), 0, -97020, 97, 0);
        Due.line(Made.found(0, Made.times(100, "glue:1000:0:1000")), 0, -100000, 100, 0);
        Due.answer("run()", Made.open(0, Made.times(99, "glue:1000:0:1000") + " glue:1001:0:1000").run(), 0);
        Due.answer("run()", Made.open(16383, Made.times(100, "glue:10000:10000:1000")).run(), 0);
    }

    private static void widthOfItsLine() {
        terms("It is to be as long as the WIDTH of its line (by its number from 0)");
        BreakSearch x = Made.open(30, Made.times(49, "pen:-10000"));
        for (int line = 0; line < 50; line += 2) {
            x.shape(line, 100 + line);
        }
        Due.answer("run()", x.run(), 50);
        for (int line = 0; line < 50; line++) {
            Due.answer("lacks(" + line + ")", x.lacks(line), line % 2 == 0 ? 100 + line : 30);
        }
        BreakSearch y = Made.plain(10, Made.times(4, "box:10 pen:0"));
        y.shape(1, 20);
        Due.answer("run()", y.run(), 3);
        Due.way(y, 1, 300, 1, 5, 8);
        BreakSearch each = new BreakSearch(0);
        each.setting(0, 0);
        for (int line = 0; line < 50; line++) {
            each.shape(line, line * 29 % 50);
            Made.add(each, "box:" + line * 29 % 50 + (line < 49 ? " pen:-10000" : ""));
        }
        Due.answer("run()", each.run(), 50);
        Due.answer("demerits()", each.demerits(), 5000);
    }

    // Lacks, badness and class

    private static void lacks() {
        terms("It is what it LACKS: w = its width less its length");
        for (int w : new int[] {-10, -1, 0, 1, 10}) {
            Due.answer("lacks(0)", Made.line(100 + w, 10, 10).lacks(0), w);
        }
    }

    private static void nothingLacks() {
        terms("If w is 0, its BADNESS is 0");
        Due.line(Made.line(100, 0, 0), 0, 0, 0, 1);
        Due.line(Made.line(100, 10, 10), 0, 0, 0, 1);
        Due.line(Made.found(0, ""), 0, 0, 0, 1);
    }

    private static void lacksAtTheEnd() {
        terms("If w is above 0: 0 when it ends at the END");
        Due.line(Made.found(11, "box:10"), 0, 1, 0, 1);
        Due.line(Made.found(16383, "box:0"), 0, 16383, 0, 1);
        Due.line(Made.found(100, "box:1 glue:1:1:0 box:1"), 0, 97, 0, 1);
        BreakSearch x = Made.plain(100, "box:1 glue:1:1:0 box:1");
        x.setting(0, 0);
        Due.answer("run() of tolerance 0", x.run(), 1);
    }

    private static void badnessWide() {
        terms("else 100 w^3 / s^3 (the rest left off)");
        int[][] asked = {{1, 100, 0}, {1, 5, 0}, {1, 4, 1}, {1, 2, 12}, {10, 10, 100}, {10, 11, 75}, {11, 10, 133},
            {9999, 10000, 99}, {10000, 10000, 100}, {10000, 9999, 100}};
        for (int[] b : asked) {
            Due.answer("badness(0), w " + b[0] + ", s " + b[1], Made.line(100 + b[0], b[1], 0).badness(0), b[2]);
        }
        Due.line(Made.found(10000, "glue:0:10000 glue:0:2000 pen:-10000"), 0, 10000, 57, 2);

        terms("at most 10000");
        int[][] most = {{46, 10, 9733}, {47, 10, 10000}, {464, 100, 9989}, {465, 100, 10000}, {10000, 1, 10000},
            {13000, 2, 10000}};
        for (int[] b : most) {
            Due.answer("badness(0), w " + b[0] + ", s " + b[1], Made.line(100 + b[0], b[1], 0).badness(0), b[2]);
        }
        Due.line(Made.found(16383, "glue:0:1 pen:-10000"), 0, 16383, 10000, 3);

        terms("10000 when s is 0");
        Due.line(Made.line(101, 0, 0), 0, 1, 10000, 3);
        Due.line(Made.line(101, 0, 1000), 0, 1, 10000, 3);
        BreakSearch x = Made.plain(101, Made.lineItems(0, 0));
        x.setting(0, 9999);
        Due.answer("run() of tolerance 9999", x.run(), 0);
    }

    private static void badnessTight() {
        terms("If w is below 0: 100 (-w)^3 / s^3 likewise for its shrink s");
        int[][] asked = {{1, 1, 100}, {1, 2, 12}, {1, 4, 1}, {1, 5, 0}, {99, 100, 97}, {100, 100, 100}, {50, 1000, 0}};
        for (int[] b : asked) {
            Due.answer("badness(0), w -" + b[0] + ", s " + b[1], Made.line(100 - b[0], 0, b[1]).badness(0), b[2]);
        }
        Due.line(Made.found(100, "glue:0:0:20 box:110"), 0, -10, 12, 1);
        Due.line(Made.found(100, "glue:0:0:10 box:110"), 0, -10, 100, 0);

        terms("but it is no line when -w is above s");
        Due.answer("run(), w -1, s 1", Made.line(99, 0, 1).lines(), 2);
        Due.answer("run(), w -2, s 1", Made.line(98, 10000, 1).lines(), 0);
        Due.answer("run(), w -1, s 0", Made.line(99, 10000, 0).lines(), 0);
        Due.answer("run(), w -101, s 100 at the END", Made.open(0, "glue:101:0:100").run(), 0);
        Due.answer("run(), w -1, s 0 at the END", Made.open(0, "box:1").run(), 0);
        BreakSearch x = Made.open(99, Made.lineItems(0, 0));
        x.setting(1, 10000);
        x.setting(2, 10000);
        Due.answer("run(): in no pass", x.run(), 0);
    }

    private static void classes() {
        terms("Its CLASS is 1 when w is 0, or when it is above 0 and ends at the END");
        Due.answer("classOf(0), w 0, s 0", Made.line(100, 0, 0).classOf(0), 1);
        Due.answer("classOf(0), w 0, s 9", Made.line(100, 9, 9).classOf(0), 1);
        Due.answer("classOf(0), w 1 at the END", Made.found(11, "box:10").classOf(0), 1);
        Due.answer("classOf(0), w 90 of 1 at the END", Made.found(100, "glue:0:1 box:10").classOf(0), 1);

        terms("for w > 0: 3 if w > s, 2 if 2 w > s, else 1");
        int[][] wide = {{5, 10, 1}, {6, 10, 2}, {10, 10, 2}, {11, 10, 3}, {5, 11, 1}, {6, 11, 2}, {11, 11, 2},
            {12, 11, 3}, {1, 1, 2}, {1, 2, 1}, {10000, 10000, 2}, {10000, 9999, 3}};
        for (int[] c : wide) {
            Due.answer("classOf(0), w " + c[0] + ", s " + c[1], Made.line(100 + c[0], c[1], 0).classOf(0), c[2]);
        }

        terms("3 when s is 0");
        Due.answer("classOf(0), w 1", Made.line(101, 0, 0).classOf(0), 3);
        Due.answer("classOf(0), w 1, shrink 1000", Made.line(101, 0, 1000).classOf(0), 3);

        terms("for w < 0: 0 if -2 w > s, else 1");
        int[][] tight = {{5, 10, 1}, {6, 10, 0}, {10, 10, 0}, {5, 11, 1}, {6, 11, 0}, {1, 1, 0}, {1, 2, 1}};
        for (int[] c : tight) {
            Due.answer("classOf(0), w -" + c[0] + ", s " + c[1], Made.line(100 - c[0], 0, c[1]).classOf(0), c[2]);
        }
        Due.answer("classOf(0), w -5, s 10 at the END", Made.found(95, "glue:0:0:10 box:100").classOf(0), 1);
        Due.answer("classOf(0), w -6, s 10 at the END", Made.found(94, "glue:0:0:10 box:100").classOf(0), 0);
    }

    // Demerits

    private static void demeritsByBadness() {
        terms("DEMERITS of a line: (L + badness)^2, with L = 10");
        Due.answer("demerits(), badness 0", Made.found(10, "box:10").demerits(), 100);
        Due.answer("demerits(), badness 100", Made.line(110, 10, 0).demerits(), 110 * 110 + 100);
        Due.answer("demerits(), badness 1", Made.line(101, 4, 0).demerits(), 11 * 11 + 100);
        Due.answer("demerits(), badness 10000", Made.line(10100, 1, 0).demerits(), WORST_LINE + 100 + CLASS_FEE);
    }

    private static void demeritsByPenalty() {
        terms("p^2 more when it ends at a penalty with p from 0 on");
        for (int p : new int[] {0, 1, 7, 9999}) {
            Due.way(Made.found(10, "box:10 pen:" + p + " box:10"), 1, 200 + (long) p * p, 1, 3);
        }
        Due.way(Made.found(10, "box:10 glue:3 box:10"), 1, 200, 1, 3);

        terms("p^2 less when p is below 0 and above -10000");
        for (int p : new int[] {-1, -7, -9999}) {
            Due.way(Made.found(10, "box:10 pen:" + p + " box:10"), 1, 200 - (long) p * p, 1, 3);
        }
        Due.way(Made.found(10, "box:10 pen:-10000 box:10"), 1, 200, 1, 3);
    }

    private static void demeritsByMarks() {
        terms("3000 more when both it and the line before it end at MARKED penalties");
        String[] breaks = {"glue:0", "pen:-10000", "pen:50", "mark:50", "mark:-10000"};
        for (String first : breaks) {
            for (String second : breaks) {
                BreakSearch x = Made.found(10, "box:10 " + first + " box:10 " + second + " box:10");
                boolean both = first.startsWith("mark") && second.startsWith("mark");
                boolean any = first.startsWith("mark") || second.startsWith("mark");
                long fees = (first.endsWith(":50") ? 2500 : 0) + (second.endsWith(":50") ? 2500 : 0);
                Due.way(x, any ? 2 : 1, 300 + fees + (both ? MARK_FEE : 0), 1, 3, 5);
            }
        }
        Due.way(Made.found(10, "box:10 mark:0 box:10 pen:0 box:10 mark:0 box:10"), 2, 400, 1, 3, 5, 7);
        Due.way(Made.found(10, "box:10 mark:0 box:10 mark:0 box:10 mark:0 box:10"), 2, 400 + 2 * MARK_FEE, 1, 3, 5, 7);
        Due.way(Made.found(10, "mark:-10000:10 mark:-10000:10"), 2, 300 + MARK_FEE, 0, 1, 2);
    }

    /** Widths that make a line 100 long, with 10 to give each way, be of class 0, 1, 2 and 3. */
    private static final int[] WIDTH_OF_CLASS = {94, 100, 106, 111};
    private static final int[] BADNESS_OF_CLASS = {21, 0, 21, 133};

    private static void demeritsByClass() {
        terms("2000 more when its class and that of the line before it differ by more than 1");
        String row = "box:50 pen:10000 glue:0:10:10 box:50 pen:-10000 ";
        for (int a = 0; a < 4; a++) {
            for (int b = 0; b < 4; b++) {
                BreakSearch x = Made.open(0, row + row + "box:0");
                x.shape(0, WIDTH_OF_CLASS[a]);
                x.shape(1, WIDTH_OF_CLASS[b]);
                Due.answer("run()", x.run(), 3);
                Due.line(x, 0, WIDTH_OF_CLASS[a] - 100, BADNESS_OF_CLASS[a], a);
                Due.line(x, 1, WIDTH_OF_CLASS[b] - 100, BADNESS_OF_CLASS[b], b);
                Due.answer("demerits() of classes " + a + " " + b + " 1", x.demerits(),
                        own(a) + own(b) + 100 + between(a, b) + between(b, 1));
            }
        }
        Due.answer("demerits(): no line is before the first", Made.found(94, "glue:0:0:10 box:100").demerits(), 31 * 31);
    }

    private static long own(int sort) {
        return (10L + BADNESS_OF_CLASS[sort]) * (10L + BADNESS_OF_CLASS[sort]);
    }

    private static long between(int before, int sort) {
        return Math.abs(before - sort) > 1 ? CLASS_FEE : 0;
    }

    // Ways

    private static void tolerance() {
        terms("a row of breaks whose lines all are lines with a badness of at most the TOLERANCE");
        int[][] asked = {{100, 10, 0, 0}, {101, 100, 0, 0}, {101, 4, 0, 1}, {110, 10, 0, 100}, {90, 0, 10, 100},
            {101, 0, 0, 10000}};
        for (int[] t : asked) {
            BreakSearch x = Made.plain(t[0], Made.lineItems(t[1], t[2]));
            x.setting(1, -1);
            x.setting(0, t[3]);
            Due.answer("run(), badness " + t[3] + " is tolerated", x.run(), 2);
            x.setting(0, t[3] - 1);
            Due.answer("run(), badness " + t[3] + " is not", x.run(), 0);
        }
        BreakSearch spoiled = Made.open(10, "box:10 pen:-10000 box:9 pen:-10000 box:10");
        Due.answer("run()", spoiled.run(), 3);
        spoiled.setting(0, 9999);
        Due.answer("run(): one bad line of three", spoiled.run(), 0);

        terms("with the END as the last one");
        Due.way(Made.found(10, "box:10 pen:-9999"), 1, 200 - 9999L * 9999, 1, 2);
        Due.way(Made.found(10, "box:10 glue:0"), 1, 100, 2);
    }

    private static void fiftyLines() {
        terms("it has at most 50 lines");
        Due.answer("run() of 50", Made.open(0, Made.times(49, "pen:-10000")).run(), 50);
        BreakSearch x = Made.open(0, Made.times(50, "pen:-10000"));
        x.setting(1, 10000);
        Due.answer("run() of 51", x.run(), 0);
        Due.noWay(x);
        BreakSearch most = Made.plain(0, Made.times(100, "pen:-1000"));
        Due.answer("run(): the best has no more", most.run(), 50);
        Due.answer("demerits()", most.demerits(), 50 * 100 - 49 * 1000000L);
        for (int line = 0; line < 49; line++) {
            Due.answer("at(" + line + ")", most.at(line), line);
        }
        Due.answer("at(49)", most.at(49), 100);
        Due.noLine(most, 50);
    }

    private static void theBestWay() {
        terms("THE BEST way has the least sum of demerits");
        Due.way(Made.found(0, "box:0 pen:-20 pen:-20 pen:-20"), 1, 400 - 3 * 400, 1, 2, 3, 4);
        Due.way(Made.found(0, "box:0 pen:-11"), 1, 200 - 121, 1, 2);
        Due.way(Made.found(0, "box:0 pen:-9"), 1, 100, 2);

        terms("of equal ones the fewest lines");
        Due.way(Made.found(0, "box:0 pen:-10"), 1, 100, 2);
        Due.way(Made.found(0, Made.times(49, "pen:-10")), 1, 100, 49);
        Due.way(Made.found(0, "box:0 pen:-10000 box:0 pen:-10 box:0"), 1, 200, 1, 5);

        terms("of these the first one (by its first break, the earlier one before the later one");
        BreakSearch x = Made.found(0, "pen:-20 pen:-20 pen:-20");
        Due.answer("loose(2)", x.loose(2), 1);
        Due.way(x, 1, 200 - 400, 0, 3);
        BreakSearch y = Made.plain(20, Made.times(4, "box:10 pen:0"));
        y.shape(1, 10);
        y.shape(2, 10);
        Due.answer("run()", y.run(), 3);
        Due.way(y, 1, 300, 3, 5, 8);

        terms("then the second ..)");
        Due.answer("loose(3)", x.loose(3), 1);
        Due.way(x, 1, 300 - 800, 0, 1, 3);
        BreakSearch z = Made.found(10, "box:10 pen:-10000 pen:-20:10 pen:-20:10 pen:-20:10");
        Due.answer("loose(3)", z.loose(3), 1);
        Due.way(z, 1, 300 - 400, 1, 2, 5);
    }

    // Passes

    private static void firstPass() {
        terms("PASS 1 has the first tolerance, and no breaks at marked penalties");
        BreakSearch x = Made.plain(110, Made.lineItems(10, 0));
        x.setting(1, -1);
        Due.answer("run()", x.run(), 2);
        Due.answer("pass()", x.pass(), 1);
        x.setting(0, 99);
        Due.answer("run()", x.run(), 0);
        for (int p : new int[] {-10000, -9999, 0, 9999}) {
            BreakSearch y = Made.open(10, "box:10 mark:" + p + " box:10");
            y.setting(1, -1);
            Due.answer("run(), a marked " + p, y.run(), 0);
        }
    }

    private static void secondPass() {
        terms("pass 2 the second tolerance");
        BreakSearch x = Made.plain(110, Made.lineItems(10, 0));
        x.setting(0, 99);
        x.setting(1, 100);
        Due.answer("run()", x.run(), 2);
        Due.answer("pass()", x.pass(), 2);
        x.setting(1, 99);
        Due.answer("run()", x.run(), 0);
        for (int p : new int[] {-10000, -9999, 0, 9999}) {
            BreakSearch y = Made.open(10, "box:10 mark:" + p + " box:10");
            Due.answer("run(), a marked " + p, y.run(), 2);
            Due.answer("pass()", y.pass(), 2);
        }
    }

    /** 100 lacking, of a stretch of 50: bad by 800; with 50 more by 100, with 49 more by 103. */
    private static void thirdPass() {
        terms("pass 3 the second one, with the EMERGENCY stretch more in each line");
        BreakSearch x = Made.plain(200, Made.lineItems(50, 0));
        x.setting(0, 799);
        x.setting(2, 49);
        x.setting(1, 102);
        Due.answer("run()", x.run(), 0);
        x.setting(1, 103);
        Due.answer("run()", x.run(), 2);
        Due.answer("pass()", x.pass(), 3);
        Due.line(x, 0, 100, 103, 3);
        x.setting(1, 100);
        x.setting(2, 50);
        x.run();
        Due.way(x, 3, 110 * 110 + 100, 4, 6);
        Due.line(x, 0, 100, 100, 2);
        x.setting(2, 200);
        x.run();
        Due.line(x, 0, 100, 6, 1);
        BreakSearch each = Made.plain(10, "box:9 pen:-10000 box:8 pen:-10000 mark:-10000");
        each.setting(2, 10);
        Due.answer("run(): in each line, at marks too", each.run(), 4);
        Due.way(each, 3, 100 + 100 + 110 * 110 + 100, 1, 3, 4, 5);
        BreakSearch y = Made.plain(99, Made.lineItems(0, 0));
        y.setting(2, 10000);
        Due.answer("run(): it is no shrink", y.run(), 0);
    }

    private static void firstPassThatHasAWay() {
        terms("The first pass that has a way counts");
        BreakSearch x = Made.plain(10, "box:10 mark:-100 box:0");
        x.run();
        Due.way(x, 1, 100, 3);
        x.setting(0, -1);
        x.run();
        Due.way(x, 2, 200 - 10000, 1, 3);
        BreakSearch y = Made.plain(200, Made.lineItems(50, 0));
        y.setting(0, 800);
        y.setting(1, 800);
        y.setting(2, 10000);
        y.run();
        Due.answer("pass()", y.pass(), 1);
        Due.line(y, 0, 100, 800, 3);
        y.setting(0, 799);
        y.run();
        Due.answer("pass()", y.pass(), 2);
        Due.line(y, 0, 100, 800, 3);
        y.setting(1, 799);
        y.run();
        Due.answer("pass()", y.pass(), 3);
        Due.line(y, 0, 100, 0, 1);
    }

    private static void itemsAndBreaks() {
        numberedFromZeroAtMost100();
        penaltyValues();
        sizes();
        theEnd();
        breakAtGlue();
        breakAtPenalty();
        breakAtTheEnd();
        breakThatHasToBe();
        markedBreakThatHasToBe();
    }

    private static void lines() {
        firstLineHasAllItems();
        behindABreak();
        ownBreakFirst();
        glueAtWhichItEnds();
        otherPenalties();
        penaltyAtWhichItEnds();
        sums();
        widthOfItsLine();
        lacks();
        nothingLacks();
        lacksAtTheEnd();
        badnessWide();
        badnessTight();
        classes();
    }

    private static void ways() {
        demeritsByBadness();
        demeritsByPenalty();
        demeritsByMarks();
        demeritsByClass();
        tolerance();
        fiftyLines();
        theBestWay();
        firstPass();
        secondPass();
        thirdPass();
        firstPassThatHasAWay();
    }

    public static void main(String[] args) {
        itemsAndBreaks();
        lines();
        ways();
        Due.finish();
    }
}
