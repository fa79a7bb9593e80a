/** Each promise of the document by itself: ordinary inputs, the edges that it names, wrong inputs. */
public final class BreakSearchPromises {
    private static final int MARK_FEE = 3000;
    private static final int CLASS_FEE = 2000;

    private static int wrong = 0;

    private static void due(String what, long got, long want) {
        if (got != want) {
            wrong++;
            System.out.println(what + " answered " + got + ", due is " + want);
        }
    }

    private static void dueWay(String what, BreakSearch x, int pass, long demerits, int... ends) {
        due(what + ": lines", x.lines(), ends.length);
        due(what + ": pass", x.pass(), pass);
        due(what + ": demerits", x.demerits(), demerits);
        for (int i = 0; i < ends.length; i++) {
            due(what + ": at " + i, x.at(i), ends[i]);
        }
        due(what + ": at behind", x.at(ends.length), -1);
    }

    private static void dueLine(String what, BreakSearch x, int line, int lacks, int badness, int sort) {
        due(what + ": lacks " + line, x.lacks(line), lacks);
        due(what + ": badness " + line, x.badness(line), badness);
        due(what + ": classOf " + line, x.classOf(line), sort);
    }

    /** Boxes of these widths, with a forced, unmarked penalty behind each one but the last. */
    private static BreakSearch rows(int width, int... boxes) {
        BreakSearch x = new BreakSearch(width);
        x.setting(0, 10000);
        for (int i = 0; i < boxes.length; i++) {
            if (i > 0) {
                x.penalty(-10000, 0, false);
            }
            x.box(boxes[i]);
        }
        return x;
    }

    /** One line "box glue box" that ends at a forced penalty, so that it has to be just so. */
    private static BreakSearch oneLine(int width, int stretch, int shrink) {
        BreakSearch x = oneLineAsNew(width, stretch, shrink);
        x.setting(0, 10000);
        return x;
    }

    private static BreakSearch oneLineAsNew(int width, int stretch, int shrink) {
        BreakSearch x = new BreakSearch(width);
        x.box(50);
        x.penalty(10000, 0, false);
        x.glue(0, stretch, shrink);
        x.box(50);
        x.penalty(-10000, 0, false);
        x.box(0);
        return x;
    }

    private static void newObject() {
        due("BAD", BreakSearch.BAD, -1);
        due("FULL", BreakSearch.FULL, -2);
        BreakSearch x = new BreakSearch(100);
        dueWay("new", x, 0, 0);
        dueLine("new", x, 0, 0, 0, 0);
        due("no items", x.clear(), 0);
        due("run", x.run(), 1);
        dueWay("empty", x, 1, 100, 0);
        dueLine("empty", x, 0, 100, 0, 1);
        int[] widths = {0, 16383, 16384, 16385, -1, Integer.MIN_VALUE, Integer.MAX_VALUE};
        int[] lasts = {0, 16383, 0, 1, 16383, 0, 16383};
        for (int i = 0; i < widths.length; i++) {
            BreakSearch y = new BreakSearch(widths[i]);
            y.run();
            due("width " + widths[i], y.lacks(0), lasts[i]);
        }
        newTolerances();
        allLinesAreThatWide();
    }

    /** Of stretch 300: lacking 300 is bad by 100, 301 by 101, 378 by 200, 379 by 201. */
    private static void newTolerances() {
        int[] lacks = {300, 301, 378, 379};
        int[] passes = {1, 2, 2, 0};
        for (int i = 0; i < lacks.length; i++) {
            BreakSearch x = oneLineAsNew(100 + lacks[i], 300, 0);
            x.run();
            due("tolerance when lacking " + lacks[i], x.pass(), passes[i]);
        }
    }

    private static void allLinesAreThatWide() {
        BreakSearch x = new BreakSearch(7);
        x.setting(0, 10000);
        for (int i = 0; i < 49; i++) {
            x.penalty(-10000, 0, false);
        }
        due("run of 50 lines", x.run(), 50);
        for (int i = 0; i < 50; i++) {
            due("width of line " + i, x.lacks(i), 7);
        }
    }

    private static void box() {
        BreakSearch x = new BreakSearch(0);
        due("box(-1)", x.box(-1), -1);
        due("box(10001)", x.box(10001), -1);
        due("box(min)", x.box(Integer.MIN_VALUE), -1);
        due("box(max)", x.box(Integer.MAX_VALUE), -1);
        due("box(0)", x.box(0), 0);
        due("box(10000)", x.box(10000), 1);
        due("run: too long", x.run(), 0);
        due("clear", x.clear(), 2);
        for (int i = 0; i < 100; i++) {
            due("box number", x.box(1), i);
        }
        due("box when full", x.box(1), -2);
        due("bad box when full", x.box(-1), -1);
        due("glue when full", x.glue(1, 1, 1), -2);
        due("bad glue when full", x.glue(-1, 1, 1), -1);
        due("penalty when full", x.penalty(1, 1, false), -2);
        due("bad penalty when full", x.penalty(10001, 1, false), -1);
        due("how many", x.clear(), 100);
        due("box after clear", x.box(1), 0);
    }

    private static void glue() {
        BreakSearch x = new BreakSearch(0);
        int[][] bad = {{-1, 0, 0}, {10001, 0, 0}, {0, -1, 0}, {0, 10001, 0}, {0, 0, -1}, {0, 0, 1001}};
        for (int[] g : bad) {
            due("bad glue", x.glue(g[0], g[1], g[2]), -1);
        }
        due("glue(0, 0, 0)", x.glue(0, 0, 0), 0);
        due("glue(10000, 10000, 1000)", x.glue(10000, 10000, 1000), 1);
        due("clear", x.clear(), 2);
        glueBreaks();
        glueSums();
    }

    /** Glue is a break only with a box right before it; behind a break it is not in the line. */
    private static void glueBreaks() {
        BreakSearch x = new BreakSearch(10);
        x.setting(0, 10000);
        x.box(10);
        x.glue(3, 0, 0);
        x.glue(4, 0, 0);
        x.penalty(10000, 0, false);
        x.glue(5, 0, 0);
        x.box(10);
        due("run", x.run(), 2);
        dueWay("glue behind glue", x, 1, 200, 1, 6);
        x.clear();
        x.box(10);
        x.penalty(10000, 0, false);
        x.glue(3, 0, 0);
        x.box(10);
        due("no break at glue behind a penalty", x.run(), 0);
        x.clear();
        x.glue(2, 0, 0);
        x.box(8);
        x.glue(0, 0, 0);
        x.box(10);
        due("leading glue is in the first line", x.run(), 2);
        dueWay("leading glue", x, 1, 200, 2, 4);
    }

    private static void glueSums() {
        BreakSearch x = new BreakSearch(100);
        x.setting(0, 10000);
        x.glue(1, 10, 500);
        x.box(20);
        x.penalty(10000, 9, false);
        x.glue(2, 20, 600);
        x.box(30);
        x.penalty(0, 4, false);
        x.glue(3, 40, 700);
        x.penalty(-10000, 6, false);
        x.run();
        due("sums: ends", x.at(0), 7);
        dueLine("sums", x, 0, 38, 15, 2);
        x.clear();
        x.glue(100, 0, 500);
        x.box(200);
        x.penalty(10000, 0, false);
        x.glue(300, 0, 300);
        x.box(0);
        x.run();
        dueLine("shrinks", x, 0, -500, 24, 0);
    }

    private static void penalty() {
        BreakSearch x = new BreakSearch(0);
        due("p 10001", x.penalty(10001, 0, false), -1);
        due("p -10001", x.penalty(-10001, 0, true), -1);
        due("width -1", x.penalty(0, -1, false), -1);
        due("width 10001", x.penalty(0, 10001, true), -1);
        due("p 10000", x.penalty(10000, 10000, true), 0);
        due("p -10000", x.penalty(-10000, 0, false), 1);
        penaltyWidths();
        penaltyCosts();
        penaltyMarks();
        penaltyForces();
    }

    private static void penaltyWidths() {
        BreakSearch x = new BreakSearch(10);
        x.box(4);
        x.penalty(0, 6, false);
        x.box(5);
        x.penalty(10000, 9, false);
        x.box(5);
        due("run", x.run(), 2);
        dueWay("only the penalty at the end is as wide", x, 1, 200, 1, 5);
        dueLine("penalty in", x, 0, 0, 0, 1);
        dueLine("penalty passed", x, 1, 0, 0, 1);
    }

    private static void penaltyCosts() {
        int[] ps = {0, 1, 7, 9999, -1, -7, -9999, -10000};
        for (int p : ps) {
            BreakSearch x = new BreakSearch(10);
            x.box(10);
            x.penalty(p, 0, false);
            x.box(10);
            long more = p == -10000 ? 0 : p < 0 ? -(long) p * p : (long) p * p;
            due("run at " + p, x.run(), 2);
            dueWay("penalty " + p, x, 1, 200 + more, 1, 3);
        }
        BreakSearch x = new BreakSearch(10);
        x.box(10);
        x.penalty(10000, 0, false);
        x.box(10);
        due("no break at 10000", x.run(), 0);
    }

    private static void penaltyMarks() {
        boolean[] both = {false, true};
        for (boolean first : both) {
            for (boolean second : both) {
                BreakSearch x = rows(10, 10);
                x.penalty(50, 0, first);
                x.box(10);
                x.penalty(-10000, 0, second);
                x.box(10);
                x.run();
                long fee = first && second ? MARK_FEE : 0;
                dueWay("marks", x, first || second ? 2 : 1, 2800 + fee, 1, 3, 5);
            }
        }
        BreakSearch x = rows(10, 10);
        x.penalty(0, 0, true);
        x.box(10);
        x.penalty(-10000, 0, false);
        x.box(10);
        x.penalty(0, 0, true);
        x.box(10);
        x.run();
        dueWay("marks that are not neighbours", x, 2, 400, 1, 3, 5, 7);
    }

    private static void penaltyForces() {
        BreakSearch x = new BreakSearch(100);
        x.setting(0, 10000);
        x.box(10);
        x.penalty(-10000, 0, false);
        x.penalty(-10000, 3, false);
        x.glue(5, 5, 5);
        x.penalty(-10000, 4, false);
        due("one line for each", x.run(), 4);
        dueWay("forced", x, 1, 3 * 10010L * 10010 + 100 + CLASS_FEE, 1, 2, 4, 5);
        dueLine("forced", x, 1, 97, 10000, 3);
        dueLine("forced", x, 2, 96, 10000, 3);
        dueLine("forced", x, 3, 100, 0, 1);
        x.clear();
        x.box(10);
        x.penalty(-10000, 0, true);
        x.box(10);
        due("marked and forced: not in pass 1", x.run(), 0);
        x.setting(1, 10000);
        due("but in pass 2", x.run(), 2);
        due("pass", x.pass(), 2);
    }

    private static void shape() {
        BreakSearch x = new BreakSearch(30);
        int[][] bad = {{-1, 5}, {50, 5}, {0, -1}, {0, 10001}, {Integer.MIN_VALUE, 5}, {Integer.MAX_VALUE, 5}};
        for (int[] s : bad) {
            due("bad shape", x.shape(s[0], s[1]), -1);
        }
        due("shape(0, 10000)", x.shape(0, 10000), 1);
        due("shape(2, 0)", x.shape(2, 0), 1);
        due("shape(49, 77)", x.shape(49, 77), 1);
        x.setting(0, 10000);
        for (int i = 0; i < 49; i++) {
            x.penalty(-10000, 0, false);
        }
        due("run", x.run(), 50);
        due("line 0", x.lacks(0), 10000);
        due("line 1", x.lacks(1), 30);
        due("line 2", x.lacks(2), 0);
        due("line 48", x.lacks(48), 30);
        due("line 49", x.lacks(49), 77);
        BreakSearch y = new BreakSearch(10);
        y.shape(1, 20);
        for (int i = 0; i < 4; i++) {
            y.box(10);
            y.glue(0, 0, 0);
        }
        y.clear();
        for (int i = 0; i < 4; i++) {
            y.box(10);
            y.penalty(0, 0, false);
        }
        due("lines by their numbers", y.run(), 3);
        dueWay("shaped", y, 1, 300, 1, 5, 8);
    }

    private static void setting() {
        BreakSearch x = new BreakSearch(200);
        int[][] bad = {{-1, 0}, {3, 0}, {0, -2}, {1, -2}, {2, -1}, {0, 10001}, {1, 10001}, {2, 10001},
            {Integer.MIN_VALUE, 0}, {Integer.MAX_VALUE, 0}};
        for (int[] s : bad) {
            due("bad setting", x.setting(s[0], s[1]), -1);
        }
        int[][] good = {{0, -1}, {1, -1}, {2, 0}, {0, 10000}, {1, 10000}, {2, 10000}};
        for (int[] s : good) {
            due("setting", x.setting(s[0], s[1]), 1);
        }
        x.setting(0, -1);
        due("first -1: run", x.run(), 1);
        due("first -1: pass", x.pass(), 2);
        x.setting(1, -1);
        due("both -1", x.run(), 0);
        x.setting(0, 0);
        due("first 0", x.run(), 1);
        due("first 0: pass", x.pass(), 1);
        emergency();
    }

    /** 100 lacking, of a stretch of 50: bad by 800; with 50 more by 100, with 49 more by 103. */
    private static void emergency() {
        BreakSearch x = oneLine(200, 50, 0);
        x.setting(0, 799);
        x.setting(1, 100);
        x.setting(2, 49);
        due("too little stretch", x.run(), 0);
        x.setting(2, 50);
        due("enough stretch", x.run(), 2);
        due("pass 3", x.pass(), 3);
        dueLine("stretched more", x, 0, 100, 100, 2);
        x.setting(1, 103);
        x.setting(2, 49);
        x.run();
        dueLine("class with the stretch more", x, 0, 100, 103, 3);
        x.setting(2, 200);
        x.run();
        dueLine("class with the stretch more", x, 0, 100, 6, 1);
        x.setting(0, 800);
        x.run();
        due("pass 1 is first", x.pass(), 1);
        dueLine("no more in pass 1", x, 0, 100, 800, 3);
        x.setting(0, 0);
        x.setting(1, 800);
        x.run();
        due("pass 2 is before 3", x.pass(), 2);
        dueLine("no more in pass 2", x, 0, 100, 800, 3);
        BreakSearch y = oneLine(99, 0, 0);
        y.setting(2, 10000);
        due("the stretch is no shrink", y.run(), 0);
    }

    private static void run() {
        BreakSearch x = new BreakSearch(10);
        x.box(10);
        x.penalty(-11, 0, false);
        due("run", x.run(), 2);
        dueWay("a last line of nothing", x, 1, 200 - 121, 1, 2);
        runTies();
        runLineLimit();
        runKeeps();
        BreakSearch y = rows(10, 10, 10);
        y.run();
        y.box(1);
        due("run without a way", y.run(), 0);
        dueWay("nothing told any more", y, 0, 0);
        dueLine("nothing told any more", y, 0, 0, 0, 0);
    }

    private static void runTies() {
        BreakSearch x = new BreakSearch(0);
        x.box(0);
        x.penalty(-10, 0, false);
        due("fewest lines of equal demerits", x.run(), 1);
        dueWay("fewest", x, 1, 100, 2);
        x.clear();
        x.box(0);
        x.penalty(-20, 0, false);
        x.penalty(-20, 0, false);
        x.penalty(-20, 0, false);
        due("least demerits before fewest lines", x.run(), 4);
        due("loose", x.loose(3), 1);
        dueWay("the first of equal ones", x, 1, -500, 1, 2, 4);
        BreakSearch y = new BreakSearch(20);
        y.setting(0, 10000);
        for (int i = 0; i < 4; i++) {
            y.box(10);
            y.penalty(0, 0, false);
        }
        y.shape(1, 10);
        y.shape(2, 10);
        due("run", y.run(), 3);
        dueWay("by the first break", y, 1, 300, 3, 5, 8);
    }

    private static void runLineLimit() {
        BreakSearch x = new BreakSearch(0);
        x.setting(0, 10000);
        for (int i = 0; i < 49; i++) {
            x.penalty(-10000, 0, false);
        }
        due("50 lines", x.run(), 50);
        x.penalty(-10000, 0, false);
        due("51 lines", x.run(), 0);
        due("after it", x.lines(), 0);
    }

    private static void runKeeps() {
        BreakSearch x = rows(20, 15, 20);
        x.run();
        for (int i = 0; i < 7; i++) {
            if (i == 1) {
                x.box(3);
            } else if (i == 2) {
                x.glue(1, 1, 1);
            } else if (i == 3) {
                x.penalty(0, 0, false);
            } else if (i == 4) {
                x.shape(0, 99);
            } else if (i == 5) {
                x.setting(0, 0);
            } else if (i == 6) {
                x.clear();
            }
            dueWay("kept", x, 1, 100200100L + 100 + CLASS_FEE, 1, 3);
            dueLine("kept", x, 0, 5, 10000, 3);
            dueLine("kept", x, 1, 0, 0, 1);
        }
    }

    private static void loose() {
        BreakSearch x = new BreakSearch(20);
        due("loose before run", x.loose(1), -1);
        for (int i = 0; i < 4; i++) {
            x.box(10);
            x.penalty(0, 0, false);
        }
        x.setting(0, 10000);
        due("run", x.run(), 2);
        for (int bad : new int[] {0, -1, 51, Integer.MIN_VALUE, Integer.MAX_VALUE}) {
            due("loose " + bad, x.loose(bad), -1);
        }
        dueWay("loose that is BAD changes nothing", x, 1, 200, 3, 8);
        due("loose(1)", x.loose(1), 0);
        due("loose(6)", x.loose(6), 0);
        due("loose(50)", x.loose(50), 0);
        dueWay("loose that finds none changes nothing", x, 1, 200, 3, 8);
        due("loose(3)", x.loose(3), 1);
        dueWay("loose(3)", x, 1, 300, 3, 7, 8);
        due("loose(2)", x.loose(2), 1);
        dueWay("loose(2)", x, 1, 200, 3, 8);
        looseAsItIsNow();
        loosePass();
    }

    private static void looseAsItIsNow() {
        BreakSearch x = rows(10, 10, 10);
        x.run();
        x.shape(1, 12);
        x.box(2);
        due("loose by items and widths of now", x.loose(2), 1);
        dueWay("now", x, 1, 200, 1, 4);
        x.penalty(0, 0, false);
        x.setting(0, -1);
        due("loose by settings of now", x.loose(3), 0);
        due("still told", x.lines(), 2);
        x.setting(0, 0);
        due("loose by settings of now", x.loose(3), 1);
        dueWay("now", x, 1, 300, 1, 4, 5);
    }

    /** Only the pass that run() found counts, though another would have a way. */
    private static void loosePass() {
        BreakSearch x = new BreakSearch(10);
        x.box(10);
        x.run();
        x.penalty(0, 0, true);
        due("loose keeps to pass 1", x.loose(2), 0);
        x.setting(0, -1);
        x.run();
        due("pass", x.pass(), 2);
        due("loose in pass 2", x.loose(2), 1);
        dueWay("in pass 2", x, 2, 200, 1, 2);
        x.setting(0, 0);
        x.setting(1, -1);
        due("no turning back to pass 1", x.loose(1), 0);
        BreakSearch y = oneLine(200, 50, 0);
        y.setting(0, 0);
        y.setting(2, 50);
        y.run();
        due("pass", y.pass(), 3);
        y.setting(2, 100);
        due("loose in pass 3", y.loose(2), 1);
        due("pass", y.pass(), 3);
        dueLine("in pass 3, by the stretch of now", y, 0, 100, 29, 2);
        y.box(500);
        due("run", y.run(), 0);
        due("loose when nothing was found", y.loose(1), -1);
    }

    private static void lines() {
        BreakSearch x = rows(10, 10, 10, 10);
        due("lines before run", x.lines(), 0);
        x.run();
        due("lines", x.lines(), 3);
        x.penalty(0, 0, false);
        due("lines stay", x.lines(), 3);
        x.loose(4);
        due("lines after loose", x.lines(), 4);
    }

    private static void at() {
        BreakSearch x = rows(10, 10, 10);
        due("at before run", x.at(0), -1);
        x.run();
        due("at(0)", x.at(0), 1);
        due("at(1)", x.at(1), 3);
        for (int none : new int[] {-1, 2, 49, 50, Integer.MIN_VALUE, Integer.MAX_VALUE}) {
            due("at(" + none + ")", x.at(none), -1);
        }
        BreakSearch y = new BreakSearch(10000);
        for (int i = 0; i < 100; i++) {
            y.box(100);
        }
        y.run();
        due("the END of 100 items", y.at(0), 100);
    }

    private static void lacks() {
        due("more", measured(110, 5, 5).lacks(0), 10);
        due("none", measured(100, 5, 5).lacks(0), 0);
        due("less", measured(97, 5, 5).lacks(0), -3);
        BreakSearch x = measured(97, 5, 5);
        for (int none : new int[] {-1, 2, 50, Integer.MIN_VALUE, Integer.MAX_VALUE}) {
            due("lacks(" + none + ")", x.lacks(none), 0);
        }
    }

    private static BreakSearch measured(int width, int stretch, int shrink) {
        BreakSearch x = oneLine(width, stretch, shrink);
        x.run();
        return x;
    }

    private static void badness() {
        int[][] wide = {{0, 0, 0}, {1, 0, 10000}, {1, 100, 0}, {10, 10, 100}, {10, 11, 75}, {46, 10, 9733},
            {47, 10, 10000}, {10000, 1, 10000}, {10000, 10000, 100}, {9999, 10000, 99}, {1, 2, 12}};
        for (int[] b : wide) {
            due("badness when lacking " + b[0], measured(100 + b[0], b[1], 0).badness(0), b[2]);
        }
        int[][] tight = {{1, 1, 100}, {1, 2, 12}, {99, 100, 97}, {100, 100, 100}, {50, 1000, 0}};
        for (int[] b : tight) {
            due("badness when over by " + b[0], measured(100 - b[0], 0, b[1]).badness(0), b[2]);
        }
        due("no line when over by more than it shrinks", measured(98, 10000, 1).lines(), 0);
        BreakSearch x = new BreakSearch(16383);
        x.box(0);
        x.run();
        dueLine("at the END nothing is bad", x, 0, 16383, 0, 1);
        x.shape(0, 100);
        x.glue(0, 0, 20);
        x.box(110);
        x.run();
        dueLine("but for what shrinks", x, 0, -10, 12, 1);
        for (int none : new int[] {-1, 1, 50, Integer.MIN_VALUE, Integer.MAX_VALUE}) {
            due("badness(" + none + ")", x.badness(none), 0);
        }
        hugeSums();
    }

    /** Sums whose cubes are far above an int. */
    private static void hugeSums() {
        BreakSearch x = new BreakSearch(10000);
        x.setting(0, 10000);
        for (int i = 0; i < 98; i++) {
            x.glue(0, 10000, 0);
        }
        x.penalty(-10000, 0, false);
        x.run();
        dueLine("huge stretch", x, 0, 10000, 0, 1);
        x.clear();
        x.shape(0, 0);
        for (int i = 0; i < 98; i++) {
            x.glue(990, 0, 1000);
        }
        x.penalty(-10000, 0, false);
        x.run();
        dueLine("huge shrink", x, 0, -97020, 97, 0);
        x.clear();
        for (int i = 0; i < 100; i++) {
            x.glue(10000, 0, 1000);
        }
        due("far too long", x.run(), 0);
    }

    private static void classOf() {
        int[][] wide = {{0, 0, 1}, {1, 0, 3}, {5, 10, 1}, {6, 10, 2}, {10, 10, 2}, {11, 10, 3}, {5, 11, 1}, {6, 11, 2}};
        for (int[] c : wide) {
            due("class when lacking " + c[0] + " of " + c[1], measured(100 + c[0], c[1], 0).classOf(0), c[2]);
        }
        int[][] tight = {{5, 10, 1}, {6, 10, 0}, {10, 10, 0}, {5, 11, 1}, {6, 11, 0}};
        for (int[] c : tight) {
            due("class when over by " + c[0] + " of " + c[1], measured(100 - c[0], 0, c[1]).classOf(0), c[2]);
        }
        BreakSearch x = measured(110, 5, 5);
        due("class of the last line", x.classOf(1), 1);
        for (int none : new int[] {-1, 2, 50, Integer.MIN_VALUE, Integer.MAX_VALUE}) {
            due("classOf(" + none + ")", x.classOf(none), 0);
        }
    }

    private static void demerits() {
        due("none", new BreakSearch(1).demerits(), 0);
        due("(10 + 100)^2 and 10^2", measured(110, 10, 0).demerits(), 12100 + 100);
        due("(10 + 100)^2 and 10^2: of class 0", measured(90, 0, 10).demerits(), 12100 + 100);
        due("of class 3", measured(111, 10, 0).demerits(), 143L * 143 + 100 + CLASS_FEE);
        BreakSearch x = oneLine(90, 0, 10);
        x.shape(1, 110);
        for (int to : new int[] {2, 3}) {
            x.clear();
            x.box(100);
            x.glue(0, 0, 10);
            x.box(0);
            x.penalty(-10000, 0, false);
            x.box(100);
            x.glue(0, to == 2 ? 10 : 9, 0);
            x.box(0);
            x.penalty(-10000, 0, false);
            x.run();
            due("classes 0 and " + to, x.classOf(1), to);
            long second = to == 2 ? 110 * 110 : 147 * 147;
            due("demerits of classes 0 and " + to, x.demerits(), 12100 + second + 100 + CLASS_FEE
                + (to == 3 ? CLASS_FEE : 0));
        }
        BreakSearch most = new BreakSearch(10000);
        most.setting(0, 10000);
        for (int i = 0; i < 49; i++) {
            most.box(1);
            most.penalty(9999, 0, false);
        }
        most.run();
        due("one line is best", most.demerits(), 100);
        due("50 lines", most.loose(50), 1);
        due("49 of the worst", most.demerits(), 49 * (10010L * 10010 + 9999L * 9999) + 100 + CLASS_FEE);
    }

    private static void pass() {
        BreakSearch x = new BreakSearch(10);
        due("pass before run", x.pass(), 0);
        x.box(10);
        x.penalty(-100, 0, true);
        x.box(0);
        x.run();
        dueWay("pass 1 breaks at no mark, though it would be better", x, 1, 100, 3);
        x.setting(0, -1);
        x.run();
        dueWay("pass 2 does", x, 2, 200 - 10000, 1, 3);
        x.setting(1, -1);
        x.run();
        due("no pass", x.pass(), 0);
    }

    private static void clear() {
        BreakSearch x = new BreakSearch(10);
        due("clear of nothing", x.clear(), 0);
        x.shape(0, 33);
        x.setting(0, -1);
        x.setting(1, 7);
        x.box(10);
        x.penalty(-10000, 5, true);
        x.glue(1, 1, 1);
        due("clear", x.clear(), 3);
        due("clear again", x.clear(), 0);
        x.run();
        dueWay("settings stay", x, 2, 100, 0);
        dueLine("widths stay", x, 0, 33, 0, 1);
        x.box(10);
        x.box(20);
        due("what was there is gone", x.run(), 1);
        dueLine("what was there is gone", x, 0, 3, 0, 1);
        for (int i = 0; i < 100; i++) {
            x.clear();
            due("first number", x.glue(1, 1, 1), 0);
        }
    }

    public static void main(String[] args) {
        newObject();
        box();
        glue();
        penalty();
        shape();
        setting();
        run();
        loose();
        lines();
        at();
        lacks();
        badness();
        classOf();
        demerits();
        pass();
        clear();
        System.out.println(wrong == 0 ? "all promises hold" : wrong + " answers break a promise");
        if (wrong != 0) {
            System.exit(1);
        }
    }
}
