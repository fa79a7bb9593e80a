import java.lang.reflect.Constructor;
import java.lang.reflect.Field;
import java.lang.reflect.Method;
import java.lang.reflect.Modifier;
import java.nio.file.Files;
import java.nio.file.Path;
import java.util.Arrays;
import java.util.Set;
import java.util.TreeSet;
import java.util.regex.Pattern;

/** The document's face, and those rules of LANGUAGE.md that can be seen from outside. */
public final class BreakSearchRules {
    private static final Path SOURCE = Path.of("src/main/java/BreakSearch.java");
    private static final int MOST_CALLS = 512;

    private static final String[] FACE = {
        "int box(int)", "int glue(int, int, int)", "int penalty(int, int, boolean)", "int shape(int, int)",
        "int setting(int, int)", "int run()", "int loose(int)", "int lines()", "int at(int)", "int lacks(int)",
        "int badness(int)", "int classOf(int)", "long demerits()", "int pass()", "int clear()"};

    private static final String[] RULED_OUT = {
        "throw", "throws", "try", "catch", "finally", "synchronized", "assert", "package", "->", "::",
        "equals", "hashCode", "toString", "System\\.(?!arraycopy)", "Random", "Thread", "Exact\\("};

    private static int wrong = 0;

    private static void hold(String what, boolean holds) {
        if (!holds) {
            wrong++;
            System.out.println("broken: " + what);
        }
    }

    private static void face() {
        Class<?> made = BreakSearch.class;
        hold("the class is public and final", made.getModifiers() == (Modifier.PUBLIC | Modifier.FINAL));
        Set<String> names = new TreeSet<>();
        Set<String> seen = new TreeSet<>();
        for (Method m : made.getDeclaredMethods()) {
            if (Modifier.isPublic(m.getModifiers())) {
                hold("no static method in the face: " + m.getName(), !Modifier.isStatic(m.getModifiers()));
                String takes = Arrays.toString(m.getParameterTypes()).replace("[", "(").replace("]", ")");
                seen.add(m.getReturnType() + " " + m.getName() + takes);
                names.add(m.getName());
            }
        }
        hold("the face's methods, no more and no fewer: " + seen, seen.equals(new TreeSet<>(Arrays.asList(FACE))));
        Constructor<?>[] makers = made.getDeclaredConstructors();
        hold("one constructor", makers.length == 1 && Modifier.isPublic(makers[0].getModifiers())
                && Arrays.equals(makers[0].getParameterTypes(), new Class<?>[] {int.class}));
        members(made, names);
        for (Class<?> inner : made.getDeclaredClasses()) {
            hold("static: " + inner, Modifier.isStatic(inner.getModifiers()) && !Modifier.isPublic(inner.getModifiers()));
            members(inner, names);
        }
        hold("at most twelve classes", made.getDeclaredClasses().length < 12);
    }

    private static void members(Class<?> c, Set<String> face) {
        int variable = 0;
        for (Field f : c.getDeclaredFields()) {
            boolean constant = f.getName().equals("BAD") || f.getName().equals("FULL");
            hold("private: " + f, constant ? Modifier.isPublic(f.getModifiers()) : Modifier.isPrivate(f.getModifiers()));
            hold("a static field is final: " + f, !Modifier.isStatic(f.getModifiers()) || Modifier.isFinal(f.getModifiers()));
            variable += Modifier.isStatic(f.getModifiers()) ? 0 : 1;
        }
        hold("at most twenty fields: " + c, variable <= 20);
        for (Method m : c.getDeclaredMethods()) {
            boolean isPrivate = Modifier.isPrivate(m.getModifiers());
            hold("private, or of the face: " + m, isPrivate != Modifier.isPublic(m.getModifiers()));
            hold("no private method has a public one's name: " + m, !isPrivate || !face.contains(m.getName()));
            hold("at most seven parameters: " + m, m.getParameterCount() <= 7);
        }
    }

    private static void words() throws Exception {
        String code = Files.readString(SOURCE).replaceAll("(?s)/\\*.*?\\*/", "").replaceAll("//[^\n]*", "");
        for (String word : RULED_OUT) {
            String whole = Character.isLetter(word.charAt(0)) ? "\\b" + word + (word.matches("\\w+") ? "\\b" : "") : word;
            hold("not in the program: " + word, !Pattern.compile(whole).matcher(code).find());
        }
        for (String line : code.split("\n")) {
            hold("no other library: " + line, !line.startsWith("import ") || line.equals("import java.util.Arrays;"));
        }
    }

    /** Any arguments in any state: nothing may be thrown. */
    private static void throwsNothing() {
        int[] odd = {Integer.MIN_VALUE, -10001, -10000, -1, 0, 1, 2, 49, 50, 51, 99, 100, 1000, 10000, 16383,
            Integer.MAX_VALUE};
        long state = 42;
        for (int run = 0; run < 60; run++) {
            BreakSearch x = new BreakSearch(odd[run % odd.length]);
            for (int call = 0; call < MOST_CALLS; call++) {
                state = state * 6364136223846793005L + 1442695040888963407L;
                int dice = (int) (state >>> 33);
                callOne(x, dice % 31, odd[dice / 31 % 16], odd[dice / 496 % 16], odd[dice / 7936 % 16]);
            }
        }
    }

    private static void callOne(BreakSearch x, int which, int a, int b, int c) {
        switch (which) {
            case 0: x.run(); break;
            case 1: x.loose(a); break;
            case 2: x.at(a); x.lacks(a); x.badness(a); x.classOf(a); break;
            case 3: x.lines(); x.demerits(); x.pass(); break;
            case 4: if (a == 0) { x.clear(); } break;
            case 5: x.shape(a, b); break;
            case 6: x.setting(a, b); break;
            default:
                if (which < 13) {
                    x.box(a);
                } else if (which < 22) {
                    x.glue(a, b, c);
                } else {
                    x.penalty(a, b, c > 0);
                }
        }
    }

    /** The dearest calls on the largest paragraph end soon, and the same calls answer the same. */
    private static void largest() {
        long[] sums = new long[2];
        for (int round = 0; round < 2; round++) {
            BreakSearch x = new BreakSearch(0);
            x.setting(0, 10000);
            for (int i = 0; i < 50; i++) {
                x.shape(i, i * 7 % 50);
            }
            for (int i = 0; i < 100; i++) {
                x.penalty(i * 37 % 100 - 50, i % 3, i % 5 == 0);
            }
            for (int lines = 1; lines <= 50; lines++) {
                sums[round] = sums[round] * 31 + x.run();
                sums[round] = sums[round] * 31 + x.loose(lines);
                sums[round] = sums[round] * 31 + x.demerits();
            }
        }
        hold("the same calls answer the same", sums[0] == sums[1]);
    }

    public static void main(String[] args) throws Exception {
        face();
        words();
        throwsNothing();
        largest();
        System.out.println(wrong == 0 ? "all rules are kept" : wrong + " rules are broken");
        if (wrong != 0) {
            System.exit(1);
        }
    }
}
