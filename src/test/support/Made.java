/** Paragraphs made from a short text: "box:10 glue:3:2:1 pen:50:4 mark:-100" (what is left off is 0). */
final class Made {
    private Made() {
    }

    /** A new object with these items, and with all settings as a new object has them. */
    static BreakSearch plain(int width, String items) {
        BreakSearch x = new BreakSearch(width);
        add(x, items);
        return x;
    }

    /** The same, but that pass 1 takes any line that is not too long. */
    static BreakSearch open(int width, String items) {
        BreakSearch x = plain(width, items);
        x.setting(0, 10000);
        return x;
    }

    /** An open one, with its way found. */
    static BreakSearch found(int width, String items) {
        BreakSearch x = open(width, items);
        x.run();
        return x;
    }

    /** A line 100 long that has to be just so, with this much give, and an empty last line. */
    static BreakSearch line(int width, int stretch, int shrink) {
        return found(width, lineItems(stretch, shrink));
    }

    static String lineItems(int stretch, int shrink) {
        return "box:50 pen:10000 glue:0:" + stretch + ":" + shrink + " box:50 pen:-10000 box:0";
    }

    static String times(int count, String items) {
        return (items + " ").repeat(count).trim();
    }

    static void add(BreakSearch x, String items) {
        for (String item : items.split(" ")) {
            if (!item.isEmpty()) {
                addOne(x, item.split(":"));
            }
        }
    }

    private static void addOne(BreakSearch x, String[] parts) {
        int a = number(parts, 1);
        int b = number(parts, 2);
        int number = switch (parts[0]) {
            case "box" -> x.box(a);
            case "glue" -> x.glue(a, b, number(parts, 3));
            case "pen" -> x.penalty(a, b, false);
            case "mark" -> x.penalty(a, b, true);
            default -> throw new IllegalArgumentException(parts[0]);
        };
        if (number < 0) {
            Due.refused(String.join(":", parts), number);
        }
    }

    private static int number(String[] parts, int which) {
        return which < parts.length ? Integer.parseInt(parts[which]) : 0;
    }
}
