/**
 * Paragraphs of up to 100 items and 50 lines, drawn from fixed seeds: set like text, or with so many
 * breaks and so few sizes that very many ways are equal. Every answer has to be the large model's.
 */
public final class BreakSearchLarge {
    private static final int RUNS = 240;
    private static final int[] FEW_SIZES = {0, 0, 0, 0, 5};
    private static final int[] FEW_PENALTIES = {-10000, -20, -10, 0, 0, 0, 10, 20};

    /** Text in wide lines, text in lines of a word or two, many equal ways, and ways of very many lines. */
    private static final int WIDE = 0;
    private static final int NARROW = 1;
    private static final int EQUAL = 2;
    private static final int STYLES = 4;

    private final Dice dice;
    private final Pair both;
    private final int mostItems;
    private final int style;

    private BreakSearchLarge(int run) {
        dice = new Dice(run);
        style = run % STYLES;
        int width = lineWidth();
        both = new Pair("large run " + run, new BreakSearch(width), new LargeModel(width));
        mostItems = dice.once(3) ? 100 : 30 + dice.below(71);
    }

    private int lineWidth() {
        return style == WIDE ? 120 + dice.below(200) : style == NARROW ? 70 + dice.below(30)
                : style == EQUAL ? 5 * dice.below(6) : 5 * dice.below(2);
    }

    /** Words, some of them to be divided, with glue between them, and a forced break now and then. */
    private void addText() {
        while (both.items() < mostItems) {
            both.box(8 + dice.below(40));
            if (dice.once(4)) {
                both.penalty(50, dice.below(6), true);
            } else if (dice.once(9)) {
                both.penalty(dice.below(9) * 50 - 200, dice.below(3), dice.once(3));
            } else if (dice.once(25)) {
                both.glue(0, 10000, 0);
                both.penalty(-10000, 0, dice.once(4));
            } else if (dice.once(12)) {
                both.penalty(10000, 0, false);
                both.glue(7, 4, 2);
            } else {
                both.glue(6 + dice.below(5), 2 + dice.below(7), 1 + dice.below(4));
            }
        }
    }

    private void addEqual() {
        while (both.items() < mostItems) {
            int kind = dice.below(5);
            if (kind < 2) {
                both.box(few());
            } else if (kind == 2) {
                both.glue(few(), few(), 2 * few());
            } else {
                int which = dice.once(6) ? dice.below(8) : 1 + dice.below(7);
                both.penalty(FEW_PENALTIES[which], dice.once(6) ? few() : 0, dice.once(4));
            }
        }
    }

    /** Penalties that are worth a line each, so that only the most that a way may have is the end of it. */
    private void addMany() {
        while (both.items() < mostItems) {
            if (dice.once(12)) {
                both.box(few());
            } else if (dice.once(12)) {
                both.glue(few(), few(), few());
            } else {
                both.penalty(dice.once(20) ? -10000 : -9 - dice.below(4), 0, dice.once(30));
            }
        }
    }

    private int few() {
        return FEW_SIZES[dice.below(FEW_SIZES.length)];
    }

    private void set() {
        for (int many = dice.below(4); many > 0; many--) {
            both.shape(dice.once(2) ? dice.below(6) : dice.below(50), lineWidth());
        }
        if (style != WIDE || dice.once(3)) {
            both.setting(0, dice.once(2) ? 10000 : dice.below(300) - 1);
            both.setting(1, dice.once(4) ? dice.below(300) - 1 : 10000);
        }
        both.setting(2, dice.once(3) ? 0 : 1 + dice.below(60));
    }

    private void add() {
        if (style == EQUAL) {
            addEqual();
        } else if (style == WIDE || style == NARROW) {
            addText();
        } else {
            addMany();
        }
    }

    private void play() {
        for (int paragraph = 0; paragraph < 2; paragraph++) {
            add();
            set();
            int lines = both.run();
            both.loose(lines + 1);
            both.loose(lines - 1);
            both.loose(1 + dice.below(50));
            both.loose(46 + dice.below(5));
            both.clear();
        }
    }

    public static void main(String[] args) {
        for (int run = 0; run < RUNS; run++) {
            new BreakSearchLarge(run).play();
        }
        Pair.finish(RUNS + " large runs answer as the model does");
    }
}
