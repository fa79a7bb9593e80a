/** What is due, sentence by sentence of the document: counts the sentences and every wrong answer. */
final class Due {
    /** Numbers of lines that no way has when it has fewer than 50, and arguments far outside. */
    static final int[] NO_LINES = {-1, 50, 51, Integer.MIN_VALUE, Integer.MAX_VALUE};

    private static String sentence = "";
    private static int sentences = 0;
    private static int wrong = 0;

    private Due() {
    }

    /** All that is asked from here on is asked by this sentence of the document. */
    static void by(String where, String words) {
        sentence = where + ", \"" + words + "\"";
        sentences++;
    }

    static void answer(String call, long got, long want) {
        if (got != want) {
            wrong++;
            System.out.println(sentence + ": " + call + " answered " + got + ", due is " + want);
        }
    }

    /** An item that is in range, with room for it, was not taken. */
    static void refused(String item, int got) {
        wrong++;
        System.out.println(sentence + ": " + item + " is in range, but was answered " + got);
    }

    /** The whole way that is told: its pass, its demerits and where each of its lines ends. */
    static void way(BreakSearch x, int pass, long demerits, int... ends) {
        answer("pass()", x.pass(), pass);
        answer("demerits()", x.demerits(), demerits);
        ends(x, ends);
    }

    static void ends(BreakSearch x, int... ends) {
        answer("lines()", x.lines(), ends.length);
        for (int i = 0; i < ends.length; i++) {
            answer("at(" + i + ")", x.at(i), ends[i]);
        }
        noLine(x, ends.length);
    }

    static void line(BreakSearch x, int line, int lacks, int badness, int sort) {
        answer("lacks(" + line + ")", x.lacks(line), lacks);
        answer("badness(" + line + ")", x.badness(line), badness);
        answer("classOf(" + line + ")", x.classOf(line), sort);
    }

    static void noLine(BreakSearch x, int line) {
        answer("at(" + line + ")", x.at(line), -1);
        line(x, line, 0, 0, 0);
    }

    static void noWay(BreakSearch x) {
        way(x, 0, 0);
        for (int none : NO_LINES) {
            noLine(x, none);
        }
    }

    static void finish() {
        System.out.println(wrong == 0 ? sentences + " sentences hold" : wrong + " answers break a sentence");
        if (wrong != 0) {
            System.exit(1);
        }
    }
}
