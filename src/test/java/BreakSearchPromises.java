/** The document's promises 1 to 16: each sentence that names a bound or a case of its own has a test here. */
public final class BreakSearchPromises {
    private static final int BAD = -1;
    private static final int FULL = -2;
    private static final int CLASS_FEE = 2000;
    private static final long WORST_LINE = 10010L * 10010;
    private static final int[] FAR = {Integer.MIN_VALUE, Integer.MIN_VALUE + 1, -16385, 16384, 65536, Integer.MAX_VALUE};

    private static void promise(int number, String words) {
        Due.by("Promise " + number, words);
    }

    // What it is, and the face

    private static void lastOfManyCalls() {
        Due.by("What it is", "An object is used for at most 512 calls after it has been made");
        BreakSearch x = new BreakSearch(10);
        for (int call = 1; call <= 100; call++) {
            Due.answer("box(1)", x.box(1), call - 1);
        }
        Due.answer("run()", x.run(), 0);
        Due.answer("clear()", x.clear(), 100);
        for (int call = 103; call <= 510; call++) {
            Due.answer("run() as call " + call, x.run(), 1);
        }
        Due.answer("loose(1) as call 511", x.loose(1), 1);
        Due.answer("lacks(0) as call 512", x.lacks(0), 10);
    }

    private static void constants() {
        Due.by("The public face", "BAD = -1; FULL = -2");
        Due.answer("BAD", BreakSearch.BAD, BAD);
        Due.answer("FULL", BreakSearch.FULL, FULL);
    }

    // Promise 1

    private static void newHasNoItems() {
        promise(1, "No items");
        BreakSearch x = new BreakSearch(100);
        Due.noWay(x);
        Due.answer("loose(1)", x.loose(1), BAD);
        Due.answer("clear()", x.clear(), 0);
        Due.answer("box(1)", x.box(1), 0);
        BreakSearch y = new BreakSearch(100);
        Due.answer("run()", y.run(), 1);
        Due.way(y, 1, 100, 0);
        Due.line(y, 0, 100, 0, 1);
    }

    private static void newWidth() {
        promise(1, "all lines have that WIDTH");
        BreakSearch x = Made.open(7, Made.times(49, "pen:-10000"));
        Due.answer("run()", x.run(), 50);
        for (int line = 0; line < 50; line++) {
            Due.answer("lacks(" + line + ")", x.lacks(line), 7);
        }

        promise(1, "its last 14 bits");
        int[][] widths = {{0, 0}, {1, 1}, {10001, 10001}, {16383, 16383}, {16384, 0}, {16385, 1}, {32767, 16383},
            {65536, 0}, {-1, 16383}, {-16383, 1}, {-16384, 0}, {-16385, 16383}, {Integer.MIN_VALUE, 0},
            {Integer.MIN_VALUE + 5, 5}, {Integer.MAX_VALUE, 16383}};
        for (int[] w : widths) {
            Due.answer("lacks(0) of new BreakSearch(" + w[0] + ")", Made.found(w[0], "").lacks(0), w[1]);
        }
    }

    /** Of stretch 300: lacking 300 is bad by 100, 301 by 101, 378 by 200, 379 by 201. */
    private static void newSettings() {
        promise(1, "tolerances 100 and 200");
        int[][] passes = {{300, 1}, {301, 2}, {378, 2}, {379, 0}};
        for (int[] p : passes) {
            BreakSearch x = Made.plain(100 + p[0], Made.lineItems(300, 0));
            x.run();
            Due.answer("pass() when lacking " + p[0], x.pass(), p[1]);
        }

        promise(1, "no emergency stretch");
        for (int stretch : new int[] {0, 300}) {
            BreakSearch x = Made.plain(100 + (stretch == 0 ? 1 : 379), Made.lineItems(stretch, 0));
            Due.answer("run()", x.run(), 0);
        }
    }

    // Promises 2 to 4: items, and what is refused

    private static void boxNumbers() {
        promise(2, "A box behind the others: its number");
        BreakSearch x = new BreakSearch(0);
        Due.answer("box(0)", x.box(0), 0);
        Due.answer("glue(0, 0, 0)", x.glue(0, 0, 0), 1);
        Due.answer("box(10000)", x.box(10000), 2);

        promise(2, "BAD out of range");
        BreakSearch y = Made.open(10, "box:4");
        for (int width : with(FAR, -1, 10001)) {
            Due.answer("box(" + width + ")", y.box(width), BAD);
        }
        staysAsItWas(y);
    }

    private static int[] with(int[] some, int... more) {
        int[] all = java.util.Arrays.copyOf(some, some.length + more.length);
        System.arraycopy(more, 0, all, some.length, more.length);
        return all;
    }

    /** An object of width 10 with one box of 4, to which only refused calls have come. */
    private static void staysAsItWas(BreakSearch x) {
        Due.answer("run() after what was refused", x.run(), 1);
        Due.way(x, 1, 100, 1);
        Due.line(x, 0, 6, 0, 1);
        Due.answer("box(6) after what was refused", x.box(6), 1);
        Due.answer("clear() after what was refused", x.clear(), 2);
    }

    private static void full(int promise, String items) {
        promise(promise, "FULL");
        BreakSearch x = new BreakSearch(10);
        for (int i = 0; i < 99; i++) {
            Made.add(x, "box:0");
        }
        Made.add(x, items);
        for (int again = 0; again < 2; again++) {
            Due.answer("box(1) as item 100", x.box(1), FULL);
            Due.answer("glue(1, 1, 1) as item 100", x.glue(1, 1, 1), FULL);
            Due.answer("penalty(-10000, 1, false) as item 100", x.penalty(-10000, 1, false), FULL);
        }
        Due.answer("run()", x.run(), 1);
        Due.ends(x, 100);
        Due.answer("clear()", x.clear(), 100);
        Due.answer("box(1) when there is room again", x.box(1), 0);
    }

    /** Where both could be answered, BAD is: it stands first in the document. */
    private static void badWhenFull() {
        BreakSearch x = Made.plain(10, Made.times(100, "box:0"));
        promise(2, "BAD out of range; FULL");
        Due.answer("box(-1)", x.box(-1), BAD);
        Due.answer("box(10001)", x.box(10001), BAD);
        promise(3, "BAD out of range; FULL");
        Due.answer("glue(-1, 0, 0)", x.glue(-1, 0, 0), BAD);
        Due.answer("glue(0, 10001, 0)", x.glue(0, 10001, 0), BAD);
        Due.answer("glue(0, 0, 1001)", x.glue(0, 0, 1001), BAD);
        promise(4, "BAD out of range; FULL");
        Due.answer("penalty(10001, 0, false)", x.penalty(10001, 0, false), BAD);
        Due.answer("penalty(0, -1, true)", x.penalty(0, -1, true), BAD);
    }

    private static void glueNumbers() {
        promise(3, "Glue behind the others: its number");
        BreakSearch x = new BreakSearch(0);
        Due.answer("glue(0, 0, 0)", x.glue(0, 0, 0), 0);
        Due.answer("box(0)", x.box(0), 1);
        Due.answer("glue(10000, 10000, 1000)", x.glue(10000, 10000, 1000), 2);

        promise(3, "BAD out of range");
        BreakSearch y = Made.open(10, "box:4");
        for (int size : with(FAR, -1, 10001)) {
            Due.answer("glue(" + size + ", 0, 0)", y.glue(size, 0, 0), BAD);
            Due.answer("glue(0, " + size + ", 0)", y.glue(0, size, 0), BAD);
            Due.answer("glue(10000, 10000, " + size + ")", y.glue(10000, 10000, size), BAD);
        }
        Due.answer("glue(0, 0, 1001)", y.glue(0, 0, 1001), BAD);
        Due.answer("glue(-1, -1, -1)", y.glue(-1, -1, -1), BAD);
        staysAsItWas(y);
    }

    private static void penaltyNumbers() {
        promise(4, "A penalty behind the others: its number");
        BreakSearch x = new BreakSearch(0);
        Due.answer("penalty(-10000, 0, false)", x.penalty(-10000, 0, false), 0);
        Due.answer("box(0)", x.box(0), 1);
        Due.answer("penalty(10000, 10000, true)", x.penalty(10000, 10000, true), 2);

        promise(4, "BAD out of range");
        BreakSearch y = Made.open(10, "box:4");
        for (int v : with(FAR, -10001, 10001)) {
            Due.answer("penalty(" + v + ", 0, false)", y.penalty(v, 0, false), BAD);
            Due.answer("penalty(-10000, " + v + ", true)", y.penalty(-10000, v, true), BAD);
        }
        Due.answer("penalty(0, -1, false)", y.penalty(0, -1, false), BAD);
        Due.answer("penalty(10001, -1, true)", y.penalty(10001, -1, true), BAD);
        staysAsItWas(y);
    }

    // Promise 5

    private static void shape() {
        promise(5, "Line number's WIDTH (lines 0 .. 49, 0 .. 10000): 1");
        BreakSearch x = Made.open(30, Made.times(49, "pen:-10000"));
        Due.answer("shape(0, 10000)", x.shape(0, 10000), 1);
        Due.answer("shape(1, 1)", x.shape(1, 1), 1);
        Due.answer("shape(2, 0)", x.shape(2, 0), 1);
        Due.answer("shape(48, 5)", x.shape(48, 5), 1);
        Due.answer("shape(48, 9999)", x.shape(48, 9999), 1);
        Due.answer("shape(49, 77)", x.shape(49, 77), 1);
        Due.answer("run()", x.run(), 50);
        for (int line = 0; line < 50; line++) {
            int width = switch (line) {
                case 0 -> 10000;
                case 1 -> 1;
                case 2 -> 0;
                case 48 -> 9999;
                case 49 -> 77;
                default -> 30;
            };
            Due.answer("lacks(" + line + ")", x.lacks(line), width);
        }
    }

    private static void shapeRefused() {
        promise(5, "BAD");
        BreakSearch x = Made.open(30, Made.times(49, "pen:-10000"));
        for (int far : with(FAR, -1)) {
            Due.answer("shape(" + far + ", 5)", x.shape(far, 5), BAD);
            Due.answer("shape(0, " + far + ")", x.shape(0, far), BAD);
            Due.answer("shape(49, " + far + ")", x.shape(49, far), BAD);
        }
        Due.answer("shape(50, 5)", x.shape(50, 5), BAD);
        Due.answer("shape(51, 5)", x.shape(51, 5), BAD);
        Due.answer("shape(100, 5)", x.shape(100, 5), BAD);
        Due.answer("shape(0, 10001)", x.shape(0, 10001), BAD);
        Due.answer("shape(50, 10001)", x.shape(50, 10001), BAD);
        Due.answer("run()", x.run(), 50);
        for (int line = 0; line < 50; line++) {
            Due.answer("lacks(" + line + ") after what was refused", x.lacks(line), 30);
        }
    }

    // Promise 6

    private static void setting() {
        promise(6, "The first tolerance (what = 0), the second one (1), each -1 .. 10000 .. : 1");
        BreakSearch x = new BreakSearch(101);
        Made.add(x, Made.lineItems(0, 0));
        for (int what = 0; what < 2; what++) {
            Due.answer("setting(" + what + ", 9999)", x.setting(what, 9999), 1);
            Due.answer("run()", x.run(), 0);
            Due.answer("setting(" + what + ", 10000)", x.setting(what, 10000), 1);
            Due.answer("run()", x.run(), 2);
            Due.answer("pass()", x.pass(), what + 1);
            Due.answer("setting(" + what + ", 0)", x.setting(what, 0), 1);
            Due.answer("run()", x.run(), 0);
            Due.answer("setting(" + what + ", -1)", x.setting(what, -1), 1);
        }
        x.clear();
        Due.answer("run(): -1 tolerates nothing", x.run(), 0);
        x.setting(1, 0);
        Due.answer("run(): 0 tolerates what is not bad", x.run(), 1);
        Due.answer("pass()", x.pass(), 2);
        x.setting(0, 0);
        x.run();
        Due.answer("pass()", x.pass(), 1);
    }

    private static void settingEmergency() {
        promise(6, "the EMERGENCY stretch (2), 0 .. 10000: 1");
        BreakSearch x = Made.plain(10000, "pen:-10000");
        Due.answer("run()", x.run(), 0);
        Due.answer("setting(2, 10000)", x.setting(2, 10000), 1);
        Due.answer("run()", x.run(), 2);
        Due.line(x, 0, 10000, 100, 2);
        x.setting(1, 100);
        Due.answer("setting(2, 9999)", x.setting(2, 9999), 1);
        Due.answer("run(): 100.03 leaves 100", x.run(), 2);
        Due.line(x, 0, 10000, 100, 3);
        Due.answer("setting(2, 0)", x.setting(2, 0), 1);
        Due.answer("run()", x.run(), 0);
    }

    private static void settingRefused() {
        promise(6, "BAD");
        BreakSearch x = Made.plain(101, Made.lineItems(0, 0));
        x.setting(0, 5);
        x.setting(1, 6);
        for (int far : with(FAR, -2, 10001)) {
            for (int what = 0; what < 3; what++) {
                Due.answer("setting(" + what + ", " + far + ")", x.setting(what, far), BAD);
            }
            Due.answer("setting(" + far + ", 10000)", x.setting(far, 10000), BAD);
        }
        Due.answer("setting(2, -1)", x.setting(2, -1), BAD);
        Due.answer("setting(-1, 10000)", x.setting(-1, 10000), BAD);
        Due.answer("setting(3, 10000)", x.setting(3, 10000), BAD);
        Due.answer("setting(4, 10000)", x.setting(4, 10000), BAD);
        Due.answer("run() after what was refused", x.run(), 0);
        x.clear();
        Made.add(x, "box:100 glue:0:10 pen:-10000:0");
        x.shape(0, 104);
        Due.answer("run(), badness 6", x.run(), 2);
        Due.answer("pass() of tolerance 6, not of 5", x.pass(), 2);
        x.shape(0, 105);
        Due.answer("run(), badness 12", x.run(), 0);
    }

    // Promise 7

    private static void runNumber() {
        promise(7, "THE BEST way is found: how many lines it has");
        Due.answer("run() of nothing", new BreakSearch(0).run(), 1);
        Due.answer("run() of 2 lines", Made.open(10, "box:10 glue:0 box:10").run(), 2);
        Due.answer("run() of 50 lines", Made.open(10, Made.times(49, "pen:-10000")).run(), 50);
    }

    private static void runWithoutWay() {
        promise(7, "0 when no pass has a way (then there is none that is told)");
        BreakSearch x = Made.open(10, "box:11");
        Due.answer("run()", x.run(), 0);
        Due.noWay(x);
        BreakSearch y = Made.found(10, "box:10 pen:-10000 box:9 pen:-10000 box:10");
        Due.answer("lines()", y.lines(), 3);
        y.box(1);
        Due.answer("run()", y.run(), 0);
        Due.noWay(y);
        for (int line = 0; line < 3; line++) {
            Due.noLine(y, line);
        }
        Due.answer("loose(3)", y.loose(3), BAD);
        y.clear();
        Due.answer("run() again", y.run(), 1);
        Due.way(y, 1, 100, 0);
    }

    private static void whateverComesMeanwhile() {
        promise(7, "What is found is told as it is now till the next run() .. whatever comes meanwhile");
        for (int which = 0; which < 14; which++) {
            BreakSearch x = Made.found(20, "box:15 pen:-10000 box:20");
            meanwhile(x, which);
            Due.way(x, 1, WORST_LINE + 100 + CLASS_FEE, 1, 3);
            Due.line(x, 0, 5, 10000, 3);
            Due.line(x, 1, 0, 0, 1);
        }
        BreakSearch y = Made.found(20, "box:15 pen:-10000 box:20");
        for (int which = 0; which < 14; which++) {
            meanwhile(y, which);
            Due.way(y, 1, WORST_LINE + 100 + CLASS_FEE, 1, 3);
        }
        Due.answer("run()", y.run(), 1);
        Due.way(y, 2, 100, 0);
        Due.line(y, 0, 99, 0, 1);
    }

    private static void meanwhile(BreakSearch x, int which) {
        switch (which) {
            case 1 -> x.box(3);
            case 2 -> x.glue(1, 1, 1);
            case 3 -> x.penalty(-10000, 0, true);
            case 4 -> x.shape(0, 99);
            case 5 -> x.setting(0, -1);
            case 6 -> x.setting(2, 100);
            case 7 -> x.clear();
            case 8 -> x.loose(0);
            case 9 -> x.loose(40);
            case 10 -> x.box(-1);
            case 11 -> x.shape(50, 1);
            case 12 -> x.setting(0, -2);
            case 13 -> Due.answer("at(2)", x.at(2), -1);
            default -> Due.answer("lines()", x.lines(), 2);
        }
    }

    private static void runAsItIsNow() {
        promise(7, "till the next run()");
        BreakSearch x = Made.found(10, "box:10 mark:0 box:10");
        Due.way(x, 2, 200, 1, 3);
        x.clear();
        Made.add(x, "box:10 pen:0 box:10 glue:0 box:10");
        x.run();
        Due.way(x, 1, 300, 1, 3, 5);
        x.shape(0, 20);
        x.run();
        Due.way(x, 1, 200, 3, 5);

        promise(7, "or loose() that finds one");
        BreakSearch y = Made.found(20, "box:10 pen:0 box:10");
        Due.way(y, 1, 100, 3);
        y.shape(0, 10);
        y.shape(1, 30);
        Due.answer("loose(1)", y.loose(1), 0);
        Due.way(y, 1, 100, 3);
        Due.answer("loose(2)", y.loose(2), 1);
        Due.way(y, 1, 200, 1, 3);
        Due.line(y, 1, 20, 0, 1);
    }

    // Promise 8

    private static void looseNumber() {
        promise(8, "The best way with just so many lines (1 .. 50)");
        BreakSearch x = Made.found(0, Made.times(99, "pen:0"));
        for (int lines = 50; lines >= 1; lines--) {
            Due.answer("loose(" + lines + ")", x.loose(lines), 1);
            Due.answer("lines()", x.lines(), lines);
            Due.answer("demerits()", x.demerits(), 100L * lines);
            for (int line = 0; line < lines - 1; line++) {
                Due.answer("at(" + line + ")", x.at(line), line);
            }
            Due.answer("at(" + (lines - 1) + ")", x.at(lines - 1), 99);
            Due.noLine(x, lines);
        }
        BreakSearch y = Made.found(20, Made.times(4, "box:10 pen:0"));
        Due.way(y, 1, 200, 3, 8);
        Due.answer("loose(3)", y.loose(3), 1);
        Due.way(y, 1, 300, 3, 7, 8);
        Due.answer("loose(2)", y.loose(2), 1);
        Due.way(y, 1, 200, 3, 8);
    }

    private static void looseBest() {
        promise(8, "The best way .. it is told by what follows then");
        BreakSearch x = Made.found(20, "box:10 glue:0:10 box:10 pen:30 box:10 glue:0:5 box:0 pen:-40");
        Due.way(x, 1, 100 + 900 + 100, 3, 8);
        Due.answer("loose(3)", x.loose(3), 1);
        Due.way(x, 1, 100 + 900 + 810L * 810 - 1600 + 100 + CLASS_FEE + CLASS_FEE, 3, 7, 8);
        Due.line(x, 1, 10, 800, 3);
        Due.line(x, 2, 20, 0, 1);
    }

    private static void loosePass() {
        promise(8, "in the pass that run() found");
        BreakSearch x = Made.found(10, "box:10");
        x.penalty(0, 0, true);
        Due.answer("loose(2): in pass 1", x.loose(2), 0);
        x.setting(0, -1);
        x.run();
        Due.answer("loose(2): in pass 2", x.loose(2), 1);
        Due.way(x, 2, 200, 1, 2);
        x.setting(0, 0);
        x.setting(1, -1);
        x.setting(2, 10000);
        Due.answer("loose(1): pass 1 would have one", x.loose(1), 0);
        BreakSearch y = Made.plain(20, "box:10 glue:0:10 pen:-10000");
        y.setting(1, 99);
        y.setting(0, 99);
        y.setting(2, 1);
        Due.answer("run()", y.run(), 2);
        Due.way(y, 3, 85 * 85 + 100, 2, 3);
        Due.line(y, 0, 10, 75, 2);
        y.setting(0, 10000);
        y.setting(1, 10000);
        y.setting(2, 10);
        Due.answer("loose(2): in pass 3", y.loose(2), 1);
        Due.way(y, 3, 22 * 22 + 100, 2, 3);
        Due.line(y, 0, 10, 12, 1);
        BreakSearch z = Made.plain(20, "box:10 glue:0:8 mark:-10000");
        z.setting(2, 100);
        z.run();
        Due.way(z, 2, 205 * 205 + 100 + CLASS_FEE, 2, 3);
        Due.answer("loose(2): no more stretch in pass 2", z.loose(2), 1);
        Due.way(z, 2, 205 * 205 + 100 + CLASS_FEE, 2, 3);
        z.setting(1, 194);
        Due.answer("loose(2): pass 3 would have one", z.loose(2), 0);
    }

    private static void looseAsItIsNow() {
        promise(8, "by items, widths and settings as they are now");
        BreakSearch x = Made.found(10, "box:10 pen:-10000 box:10");
        x.shape(1, 12);
        x.box(2);
        Due.answer("loose(2)", x.loose(2), 1);
        Due.way(x, 1, 200, 1, 4);
        Due.line(x, 1, 0, 0, 1);
        x.penalty(0, 0, false);
        x.setting(0, -1);
        Due.answer("loose(3)", x.loose(3), 0);
        x.setting(0, 0);
        Due.answer("loose(3)", x.loose(3), 1);
        Due.way(x, 1, 300, 1, 4, 5);
        x.clear();
        Due.answer("loose(3)", x.loose(3), 0);
        Due.answer("loose(1)", x.loose(1), 1);
        Due.way(x, 1, 100, 0);
    }

    private static void looseNone() {
        promise(8, "0 when there is none (what is told stays)");
        BreakSearch x = Made.found(20, "box:10 pen:0 box:10 pen:-10000 box:9 pen:0");
        Due.way(x, 1, 200, 3, 6);
        for (int lines : new int[] {1, 5, 50}) {
            Due.answer("loose(" + lines + ")", x.loose(lines), 0);
            Due.way(x, 1, 200, 3, 6);
            Due.line(x, 0, 0, 0, 1);
            Due.line(x, 1, 11, 0, 1);
        }
        x.loose(3);
        Due.ends(x, 3, 5, 6);
        Due.answer("loose(5)", x.loose(5), 0);
        Due.ends(x, 3, 5, 6);
    }

    private static void looseRefused() {
        promise(8, "BAD");
        BreakSearch x = Made.found(20, "box:10 pen:0 box:10 pen:-10000 box:9");
        for (int far : with(FAR, -1, 0, 51, 52)) {
            Due.answer("loose(" + far + ")", x.loose(far), BAD);
            Due.way(x, 1, 200, 3, 5);
        }

        promise(8, "BAD; also when nothing was found");
        BreakSearch y = Made.open(10, "box:10");
        for (int lines : new int[] {0, 1, 2, 50, 51}) {
            Due.answer("loose(" + lines + ") before run()", y.loose(lines), BAD);
        }
        Due.noWay(y);
        y.box(1);
        Due.answer("run()", y.run(), 0);
        Due.answer("loose(1)", y.loose(1), BAD);
        y.clear();
        Due.answer("loose(1) though there is a way now", y.loose(1), BAD);
        Due.noWay(y);
        y.run();
        Due.answer("loose(1) when one was found", y.loose(1), 1);
        Due.answer("loose(2) when one was found", y.loose(2), 0);
    }

    // Promises 9 to 15: what is told

    private static void lines() {
        promise(9, "How many lines the way found has");
        BreakSearch x = Made.open(10, "box:10 pen:-10000 box:10");
        Due.answer("lines() before run()", x.lines(), 0);
        x.run();
        Due.answer("lines()", x.lines(), 2);
        x.penalty(0, 0, false);
        Due.answer("lines() till the next run()", x.lines(), 2);
        x.loose(3);
        Due.answer("lines() after loose(3)", x.lines(), 3);
        x.box(11);
        x.run();
        Due.answer("lines() without a way", x.lines(), 0);
        Due.answer("lines(), the most", Made.found(0, Made.times(49, "pen:-10000")).lines(), 50);
    }

    private static void at() {
        promise(10, "Where a line of the way found ends: the number of an item");
        Due.ends(Made.found(10, "pen:-10000 box:10 glue:0 box:10 pen:-10000"), 0, 2, 4, 5);

        promise(10, "how many items there are, for the END");
        Due.answer("at(0), no items", Made.found(10, "").at(0), 0);
        Due.answer("at(0), 1 item", Made.found(10, "box:1").at(0), 1);
        Due.answer("at(0), 100 items", Made.found(10, Made.times(100, "box:0")).at(0), 100);
        Due.ends(Made.found(10, Made.times(99, "box:0") + " pen:-10000"), 99, 100);
        BreakSearch x = Made.found(10, "box:1");
        x.box(1);
        Due.answer("at(0) till the next run()", x.at(0), 1);

        promise(10, "-1 when there is no such line");
        BreakSearch y = Made.open(10, "box:10 pen:-10000 box:10");
        Due.answer("at(0) before run()", y.at(0), -1);
        y.run();
        for (int none : with(Due.NO_LINES, 2, 3, 49)) {
            Due.answer("at(" + none + ")", y.at(none), -1);
        }
        BreakSearch most = Made.found(0, Made.times(49, "pen:-10000"));
        Due.answer("at(49)", most.at(49), 49);
        for (int none : Due.NO_LINES) {
            Due.answer("at(" + none + ")", most.at(none), -1);
        }
        y.loose(2);
        y.clear();
        y.run();
        Due.answer("at(1) of a way that is told no more", y.at(1), -1);
    }

    private static void lacks() {
        promise(11, "What a line of it LACKS");
        Due.answer("lacks(0), the least", Made.found(0, Made.times(100, "glue:1000:0:1000")).lacks(0), -100000);
        Due.answer("lacks(0), none", Made.line(100, 0, 0).lacks(0), 0);
        Due.answer("lacks(0), the most", Made.found(-1, "").lacks(0), 16383);

        promise(11, "0 when there is no such line");
        BreakSearch x = rough();
        Due.answer("lacks(0) before run()", x.lacks(0), 0);
        x.run();
        Due.answer("lacks(0)", x.lacks(0), 11);
        Due.answer("lacks(49)", x.lacks(49), 11);
        for (int none : Due.NO_LINES) {
            Due.answer("lacks(" + none + ")", x.lacks(none), 0);
        }
        roughGone(x);
        Due.answer("lacks(0)", x.lacks(0), 0);
        Due.answer("lacks(1)", x.lacks(1), 0);
        Due.answer("lacks(49)", x.lacks(49), 0);
    }

    /** 50 lines, each 11 short; the first 49 have no stretch, so that they are bad by 10000 and of class 3. */
    private static BreakSearch rough() {
        return Made.open(11, Made.times(49, "pen:-10000"));
    }

    /** One line that lacks nothing, in place of the 50. */
    private static void roughGone(BreakSearch x) {
        x.clear();
        x.box(11);
        Due.answer("run()", x.run(), 1);
    }

    private static void badness() {
        promise(12, "The badness of a line of the way found");
        Due.answer("badness(0), the least", Made.line(100, 0, 0).badness(0), 0);
        Due.answer("badness(0), the most", Made.line(101, 0, 0).badness(0), 10000);

        promise(12, "0 when there is no such line");
        BreakSearch x = rough();
        Due.answer("badness(0) before run()", x.badness(0), 0);
        x.run();
        Due.answer("badness(0)", x.badness(0), 10000);
        Due.answer("badness(48)", x.badness(48), 10000);
        Due.answer("badness(49)", x.badness(49), 0);
        for (int none : Due.NO_LINES) {
            Due.answer("badness(" + none + ")", x.badness(none), 0);
        }
        roughGone(x);
        Due.answer("badness(1)", x.badness(1), 0);
        Due.answer("badness(48)", x.badness(48), 0);
    }

    private static void classOf() {
        promise(13, "The class of a line of the way found");
        int[] widths = {94, 100, 106, 111};
        for (int sort = 0; sort < 4; sort++) {
            Due.answer("classOf(0)", Made.line(widths[sort], 10, 10).classOf(0), sort);
        }

        promise(13, "0 when there is no such line");
        BreakSearch x = rough();
        Due.answer("classOf(0) before run()", x.classOf(0), 0);
        x.run();
        Due.answer("classOf(0)", x.classOf(0), 3);
        Due.answer("classOf(49)", x.classOf(49), 1);
        for (int none : Due.NO_LINES) {
            Due.answer("classOf(" + none + ")", x.classOf(none), 0);
        }
        roughGone(x);
        Due.answer("classOf(1)", x.classOf(1), 0);
        Due.answer("classOf(49)", x.classOf(49), 0);
    }

    private static void demerits() {
        promise(14, "The sum of its demerits");
        BreakSearch most = Made.open(10000, Made.times(49, "box:1 pen:9999"));
        most.run();
        Due.answer("demerits()", most.demerits(), 100);
        Due.answer("loose(50)", most.loose(50), 1);
        Due.answer("demerits(), far above an int", most.demerits(),
                49 * (WORST_LINE + 9999L * 9999) + 100 + CLASS_FEE);
        BreakSearch least = Made.found(0, Made.times(49, "pen:-9999"));
        Due.answer("demerits(), far below 0", least.demerits(), 50 * 100 - 49 * 9999L * 9999);
        Due.answer("demerits(), just below 0", Made.found(0, "pen:-15").demerits(), 200 - 225);

        promise(14, "0 without a way");
        BreakSearch x = Made.open(10, "box:10 pen:-100");
        Due.answer("demerits() before run()", x.demerits(), 0);
        x.run();
        Due.answer("demerits()", x.demerits(), 200 - 10000);
        x.box(11);
        x.run();
        Due.answer("demerits()", x.demerits(), 0);
    }

    private static void pass() {
        promise(15, "The pass in which it was found");
        BreakSearch x = Made.plain(20, "box:10 glue:0:8 pen:-10000");
        int[][] asked = {{195, 0, 0, 1}, {0, 195, 0, 2}, {0, 0, 40, 3}, {195, 195, 40, 1}, {0, 195, 40, 2}};
        for (int[] settings : asked) {
            x.setting(0, settings[0]);
            x.setting(1, settings[1]);
            x.setting(2, settings[2]);
            Due.answer("run()", x.run(), 2);
            Due.answer("pass()", x.pass(), settings[3]);
            Due.answer("loose(2)", x.loose(2), 1);
            Due.answer("pass() after loose(2)", x.pass(), settings[3]);
        }

        promise(15, "0 without one");
        BreakSearch y = Made.open(10, "box:10");
        Due.answer("pass() before run()", y.pass(), 0);
        y.run();
        Due.answer("pass()", y.pass(), 1);
        y.box(1);
        y.run();
        Due.answer("pass()", y.pass(), 0);
    }

    // Promise 16

    private static void clear() {
        promise(16, "No items .. how many there were");
        BreakSearch x = new BreakSearch(10);
        Due.answer("clear() of none", x.clear(), 0);
        Made.add(x, "box:10 mark:-10000:5 glue:1:1:1");
        Due.answer("clear() of 3", x.clear(), 3);
        Due.answer("clear() again", x.clear(), 0);
        Made.add(x, Made.times(100, "pen:-10000"));
        Due.answer("clear() of 100", x.clear(), 100);
        Made.add(x, "box:3 box:4 box:1");
        Due.answer("run(): nothing is left of the penalties", x.run(), 1);
        Due.way(x, 1, 100, 3);
        Due.line(x, 0, 2, 0, 1);
        x.clear();
        Due.answer("run() of none", x.run(), 1);
        Due.way(x, 1, 100, 0);
    }

    private static void clearLeavesNoMarks() {
        promise(16, "No items");
        BreakSearch x = Made.plain(10, "mark:-10000:9 mark:7:9 mark:-9:9");
        x.clear();
        Made.add(x, "pen:-10000:10 pen:-10000:10 pen:-10000:10");
        Due.answer("run()", x.run(), 4);
        Due.way(x, 1, 400, 0, 1, 2, 3);
        x.clear();
        Made.add(x, "glue:5:0:0 box:5 glue:0:0:0 box:10");
        x.run();
        Due.way(x, 1, 200, 2, 4);
    }

    private static void clearKeeps() {
        promise(16, "widths of lines and settings stay");
        BreakSearch x = Made.plain(10, "box:1");
        x.shape(0, 33);
        x.shape(49, 44);
        x.setting(0, 7);
        x.setting(1, 195);
        x.setting(2, 40);
        x.clear();
        Made.add(x, "box:29 glue:0:10 pen:-10000");
        Due.answer("run()", x.run(), 2);
        Due.way(x, 1, 16 * 16 + 100, 2, 3);
        Due.line(x, 0, 4, 6, 1);
        x.clear();
        Made.add(x, "box:23 glue:0:8 pen:-10000");
        x.run();
        Due.way(x, 2, 205 * 205 + 100 + CLASS_FEE, 2, 3);
        x.setting(1, 194);
        x.clear();
        Made.add(x, "box:23 glue:0:8 pen:-10000");
        x.run();
        Due.way(x, 3, 100 + 100, 2, 3);
        x.setting(0, 10000);
        x.clear();
        Made.add(x, Made.times(49, "pen:-10000"));
        Due.answer("run()", x.run(), 50);
        Due.answer("lacks(0)", x.lacks(0), 33);
        Due.answer("lacks(1)", x.lacks(1), 10);
        Due.answer("lacks(49)", x.lacks(49), 44);
    }

    private static void items() {
        newHasNoItems();
        newWidth();
        newSettings();
        boxNumbers();
        full(2, "box:0");
        glueNumbers();
        full(3, "glue:0");
        penaltyNumbers();
        full(4, "pen:0");
        badWhenFull();
        shape();
        shapeRefused();
        setting();
        settingEmergency();
        settingRefused();
    }

    private static void searches() {
        runNumber();
        runWithoutWay();
        whateverComesMeanwhile();
        runAsItIsNow();
        looseNumber();
        looseBest();
        loosePass();
        looseAsItIsNow();
        looseNone();
        looseRefused();
    }

    private static void answers() {
        lines();
        at();
        lacks();
        badness();
        classOf();
        demerits();
        pass();
        clear();
        clearLeavesNoMarks();
        clearKeeps();
    }

    public static void main(String[] args) {
        lastOfManyCalls();
        constants();
        items();
        searches();
        answers();
        Due.finish();
    }
}
