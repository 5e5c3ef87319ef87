import java.util.function.Supplier;

/** What the tests share: they count the wrong answers and end with exit code 1 if there was one. */
final class Check {
    private static int wrong = 0;
    private static int made = 0;
    /** What is said in front of each wrong answer: the sentence that is tested. */
    static String within = "";

    private Check() {
    }

    static void due(String what, Object got, Object want) {
        made++;
        if (!want.equals(got)) {
            wrong++;
            System.out.println(within + what + " answered " + got + ", due is " + want);
        }
    }

    static int made() {
        return made;
    }

    /** An answer, or what the call throws as the simple name of the exception. */
    static String outcome(Supplier<Object> call) {
        try {
            return String.valueOf(call.get());
        } catch (RuntimeException e) {
            return e.getClass().getSimpleName();
        }
    }

    static void dueThrow(String what, Class<? extends RuntimeException> want, Supplier<Object> call) {
        due(what, outcome(call), want.getSimpleName());
    }

    static void end() {
        System.out.println(made + " checks, " + wrong + " wrong");
        if (wrong != 0) {
            System.exit(1);
        }
    }

    /** Puts a text behind what the text buffer contains. */
    static void put(ColumnTable table, String text, int former) {
        int[] words = new int[5];
        int length = former;
        for (int from = 0; from < text.length(); from += 20) {
            for (int i = 0; i < 20; i++) {
                int b = from + i < text.length() ? text.charAt(from + i) & 255 : ' ';
                words[i / 4] = words[i / 4] << 8 | b;
            }
            table.feed(words[0], words[1], words[2], words[3], words[4]);
            length = Math.min(former + text.length(), length + 20);
            table.trim(length);
        }
    }

    static void put(ColumnTable table, String text) {
        put(table, text, 0);
    }

    static int column(ColumnTable table, String name, int type) {
        put(table, name);
        return table.addColumn(type);
    }

    static int select(ColumnTable table, String text) {
        put(table, text);
        return table.select();
    }

    /** Selects, and answers the rows and the number of comparisons: "0 3 4 / 7". */
    static String picked(ColumnTable table, String text) {
        int count = select(table, text);
        StringBuilder result = new StringBuilder();
        for (int i = 0; i < count; i++) {
            result.append(table.selected(i)).append(' ');
        }
        return result.append("/ ").append(table.comparisons()).toString();
    }

    /** Selects, and answers the kind and position of the error: "1 at 5"; "none" without one. */
    static String error(ColumnTable table, String text) {
        put(table, text);
        String thrown = outcome(() -> table.select());
        if (table.errorKind() == 0) {
            return thrown.endsWith("Exception") ? thrown + " without a kind" : "none";
        }
        return (thrown.equals("IllegalArgumentException") ? "" : thrown + " ")
                + table.errorKind() + " at " + table.errorPosition();
    }
}
