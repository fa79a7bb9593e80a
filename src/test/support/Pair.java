/** A BreakSearch and a model of it: each call goes to both, and their answers have to be the same. */
final class Pair {
    private static int wrong = 0;

    private final String name;
    private final BreakSearch made;
    private final Model model;

    Pair(String itsName, BreakSearch itsMade, Model itsModel) {
        name = itsName;
        made = itsMade;
        model = itsModel;
    }

    int items() {
        return model.items.size();
    }

    void box(int width) {
        due("box(" + width + ")", made.box(width), model.add('b', width, 0, 0, 0, false));
    }

    void glue(int width, int stretch, int shrink) {
        due("glue(" + width + ", " + stretch + ", " + shrink + ")", made.glue(width, stretch, shrink),
                model.add('g', width, stretch, shrink, 0, false));
    }

    void penalty(int p, int width, boolean marked) {
        due("penalty(" + p + ", " + width + ", " + marked + ")", made.penalty(p, width, marked),
                model.add('p', width, 0, 0, p, marked));
    }

    void shape(int line, int width) {
        due("shape(" + line + ", " + width + ")", made.shape(line, width), model.shape(line, width));
    }

    void setting(int what, int v) {
        due("setting(" + what + ", " + v + ")", made.setting(what, v), model.setting(what, v));
    }

    void clear() {
        due("clear()", made.clear(), model.clear());
    }

    int run() {
        int lines = model.run();
        due("run()", made.run(), lines);
        tell();
        return lines;
    }

    void loose(int lines) {
        due("loose(" + lines + ")", made.loose(lines), model.loose(lines));
        tell();
    }

    private void tell() {
        int count = model.told.size();
        due("lines()", made.lines(), count);
        due("demerits()", made.demerits(), model.toldDemerits);
        due("pass()", made.pass(), model.toldPass);
        for (int i = -1; i <= count; i++) {
            Model.Row row = i >= 0 && i < count ? model.told.get(i) : null;
            due("at(" + i + ")", made.at(i), row == null ? -1 : row.end);
            due("lacks(" + i + ")", made.lacks(i), row == null ? 0 : row.lacks);
            due("badness(" + i + ")", made.badness(i), row == null ? 0 : row.badness);
            due("classOf(" + i + ")", made.classOf(i), row == null ? 0 : row.sort);
        }
    }

    private void due(String call, long got, long want) {
        if (got != want) {
            wrong++;
            if (wrong <= 20) {
                System.out.println(name + ": " + call + " answered " + got + ", due is " + want);
            }
        }
    }

    static void finish(String whatHolds) {
        System.out.println(wrong == 0 ? whatHolds : wrong + " answers are not the model's");
        if (wrong != 0) {
            System.exit(1);
        }
    }
}
