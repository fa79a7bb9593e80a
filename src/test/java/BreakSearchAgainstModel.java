/**
 * Long runs of calls, drawn from fixed seeds, on a BreakSearch and on a model that tries every way
 * there is, item by item, in the document's own words; every answer of the two has to be the same.
 */
public final class BreakSearchAgainstModel {
    private static final int RUNS = 6000;
    private static final int CALLS = 60;
    private static final int[] TIE_SIZES = {0, 0, 5, 10};
    private static final int[] PENALTIES = {-10000, -9999, -100, -50, -1, 0, 0, 1, 50, 100, 9999, 10000};

    private final Dice dice;
    private final int style;
    private final int mostItems;
    private final Pair both;

    private BreakSearchAgainstModel(int run) {
        dice = new Dice(run);
        style = dice.below(4);
        mostItems = 8 + dice.below(7);
        int width = style == 0 ? 5 * dice.below(7) : style == 1 ? 60 + dice.below(120) : dice.below(250);
        if (dice.once(10)) {
            width += 16384 * (dice.below(9) - 4);
        }
        both = new Pair("run " + run, new BreakSearch(width), new Model(width));
    }

    private int size() {
        if (dice.once(60)) {
            return dice.once(2) ? -1 : 10001;
        }
        return style == 0 ? TIE_SIZES[dice.below(4)] : dice.below(70);
    }

    private void glue() {
        int width = size() / 3;
        int stretch = size() / 2;
        int shrink = dice.once(60) ? 1001 : size() / 4;
        both.glue(width, stretch, shrink);
    }

    private void penalty() {
        int p = dice.once(50) ? 20002 * dice.below(2) - 10001 : PENALTIES[dice.below(PENALTIES.length)];
        int width = dice.once(2) ? 0 : size() / 4;
        both.penalty(p, width, dice.once(2));
    }

    private void change() {
        int which = dice.below(8);
        if (which < 3) {
            int line = dice.below(8) == 0 ? dice.below(54) - 2 : dice.below(5);
            both.shape(line, style == 0 ? 5 * dice.below(7) : dice.below(250) - 1);
        } else if (which < 7) {
            int what = dice.below(5) - 1;
            both.setting(what, dice.once(3) ? 10000 : dice.once(6) ? 10001 : dice.below(400) - 2);
        } else {
            both.clear();
        }
    }

    private void find() {
        if (dice.once(2)) {
            both.run();
        } else {
            both.loose(dice.below(9) - 1);
        }
    }

    private void play() {
        for (int call = 0; call < CALLS; call++) {
            int which = dice.below(12);
            if (which >= 10) {
                find();
            } else if (which == 9) {
                change();
            } else if (both.items() >= mostItems) {
                both.clear();
            } else if (which < 4) {
                both.box(size());
            } else if (which < 7) {
                glue();
            } else {
                penalty();
            }
        }
        find();
    }

    public static void main(String[] args) {
        for (int run = 0; run < RUNS; run++) {
            new BreakSearchAgainstModel(run).play();
        }
        Pair.finish(RUNS + " runs answer as the model does");
    }
}
