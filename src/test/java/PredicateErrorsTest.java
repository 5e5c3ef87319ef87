/** Promises 34, 36 and 37 with section 4: the errors of a predicate text. */
public final class PredicateErrorsTest {
    public static void main(String[] args) {
        wrongTokens();
        ends();
        numbersAndDots();
        depth();
        names();
        types();
        numbers();
        firstErrorOfAll();
        results();
        Check.end();
    }

    /** Columns: s SHORT, c CHAR, l LONG, f FLOAT, d DOUBLE, b and x BOOLEAN. */
    private static ColumnTable table() {
        ColumnTable t = new ColumnTable();
        Check.column(t, "s", 1);
        Check.column(t, "c", 2);
        Check.column(t, "l", 3);
        Check.column(t, "f", 4);
        Check.column(t, "d", 5);
        Check.column(t, "b", 0);
        Check.column(t, "x", 0);
        return t;
    }

    private static void due(String text, String want) {
        Check.due("'" + text + "'", Check.error(table(), text), want);
    }

    private static void wrongTokens() {
        due("and b", "1 at 0");
        due(")", "1 at 0");
        due("= 1", "1 at 0");
        due("1 = s", "1 at 0");
        due("b b", "1 at 2");
        due("b)", "1 at 1");
        due("s)", "1 at 1");
        due("(b))", "1 at 3");
        due("b not x", "1 at 2");
        due("b (x)", "1 at 2");
        due("b and and x", "1 at 6");
        due("b or or x", "1 at 5");
        due("b is b", "1 at 5");
        due("b is not not null", "1 at 9");
        due("s = = 1", "1 at 4");
        due("s = null", "1 at 4");
        due("s = not", "1 at 4");
        due("s = (1)", "1 at 4");
        due("s = 1 2", "1 at 6");
        due("s = - - 1", "1 at 6");
        due("s = -s", "1 at 5");
        due("s in (1 .. 2)", "1 at 5");
        due("s in c .. 2", "1 at 5");
        due("s in 1 - 2", "1 at 7");
        due("s in 1 .. c", "1 at 10");
        due("s % 2", "1 at 5");
        due("s % 2 is null", "1 at 6");
        due("s % 2 = c", "1 at 8");
        due("s % 2 in 1 .. 2", "1 at 6");
        due("s % c = 1", "1 at 4");
        due("s = c % 2", "1 at 6");
        due("s not in 1 .. 2", "1 at 2");
        due("s 5", "1 at 2");
        due("(s 5", "1 at 3");
        due("b\tor x", "1 at 1");
        due("S = 1", "1 at 0");
        due("b !", "1 at 2");
        due("s =< 1", "1 at 3");
        due("s =1=", "1 at 4");
        due("s <=> 1", "1 at 4");
        due("s <>= 1", "1 at 4");
        due("s > = 1", "1 at 4");
        due("s < > 1", "1 at 4");
        due("b and (x", "1 at 8");
    }

    private static void ends() {
        due("", "1 at 0");
        due("   ", "1 at 3");
        due("(", "1 at 1");
        due("not ", "1 at 4");
        due("b and", "1 at 5");
        due("b or  ", "1 at 6");
        due("(b", "1 at 2");
        due("((b)", "1 at 4");
        due("(s", "1 at 2");
        due("s is", "1 at 4");
        due("s is not", "1 at 8");
        due("s =", "1 at 3");
        due("s = -", "1 at 5");
        due("s in", "1 at 4");
        due("s in 1", "1 at 6");
        due("s in 1 ..", "1 at 9");
        due("s in 1..-", "1 at 9");
        due("s %", "1 at 3");
        due("s % 3 <", "1 at 7");
    }

    private static void numbersAndDots() {
        due("s in 1..2", "none");
        due("s in 1 ..2", "none");
        due("d in 1.5..2.5", "none");
        due("d in 1...5", "1 at 8");
        due("d = 1.2.3", "1 at 7");
        due("d = 1.", "1 at 5");
        due("d = .5", "1 at 4");
        due("d = 1 .5", "1 at 6");
        due("d = 1. 5", "1 at 5");
        due("d in 1. .2", "1 at 6");
        due("s=1and b", "none");
        due("s=1or(b)and not(x)", "none");
        due(" s  in-1..-2 ", "none");
        due("s=-1", "none");
        due("s<-1", "none");
        due("s< >1", "1 at 3");
        due("notb", "2 at 0");
        due("not(b)", "none");
    }

    private static String repeated(String part, int times) {
        StringBuilder result = new StringBuilder();
        for (int i = 0; i < times; i++) {
            result.append(part);
        }
        return result.toString();
    }

    private static void depth() {
        due(repeated("(", 19) + "b" + repeated(")", 19), "none");
        due(repeated("(", 20) + "b" + repeated(")", 20), "1 at 19");
        due(repeated("not ", 19) + "b", "none");
        due(repeated("not ", 20) + "b", "1 at 76");
        due(repeated("not(", 9) + "not b" + repeated(")", 9), "none");
        due(repeated("not(", 9) + "not not b" + repeated(")", 9), "1 at 40");
        due(repeated("(", 19) + "b" + repeated(")", 18) + " and (x) and " + "(x))", "none");
        due(repeated("not ", 19) + "b and " + repeated("not ", 19) + "b", "none");
        due(repeated("(", 19) + "b is not null" + repeated(")", 19), "none");
        due(repeated("(", 25), "1 at 19");
        due(repeated("(", 200), "1 at 19");
        due(repeated("b or ", 39) + "not b", "none");
        due(repeated("b or ", 39) + "b or ", "1 at 200");
        due(repeated("(", 18) + "b) and (b or (x", "1 at " + (18 + 15));
    }

    private static void names() {
        due("zz = 1", "2 at 0");
        due("b and zz", "2 at 6");
        due("zz ~", "2 at 0");
        due("ss", "2 at 0");
        due("abcdefghij = 1", "2 at 0");
        due("s = zz", "2 at 4");
        due("s = zz ~", "2 at 4");
        due("d < dd", "2 at 4");
        due("s zz", "1 at 2");
        due("s % zz", "1 at 4");
        ColumnTable none = new ColumnTable();
        Check.due("no columns", Check.error(none, "a"), "2 at 0");
    }

    private static void types() {
        due("b = 1", "3 at 0");
        due("x and b in 1..2", "3 at 6");
        due("b % 2 = 1", "3 at 0");
        due("b = x", "3 at 0");
        due("b = ~", "3 at 0");
        due("s", "3 at 0");
        due("(d)", "3 at 1");
        due("not l and", "3 at 4");
        due("f or b", "3 at 0");
        due("(s", "1 at 2");
        due("s)", "1 at 1");
        due("(s))", "3 at 1");
        due("s ~", "1 at 2");
        due("s = d", "3 at 4");
        due("s = b", "3 at 4");
        due("f = c", "3 at 4");
        due("d = b", "3 at 4");
        due("s = c and l <> s and f < d and d >= f", "none");
        due("s is null and b is null and d is not null", "none");
    }

    private static void numbers() {
        due("s = 1.0", "4 at 4");
        due("l in 1 .. 2.5", "4 at 10");
        due("l in 0.5 .. ~", "4 at 5");
        due("l = 9223372036854775807", "none");
        due("l = 9223372036854775808", "4 at 4");
        due("l = -9223372036854775808", "none");
        due("l = - 9223372036854775808", "none");
        due("l = -9223372036854775809", "4 at 5");
        due("l = 99999999999999999999999", "4 at 4");
        due("s = 00000000000000000000000000001", "none");
        due("s = 9223372036854775807", "none");
        due("d = 1000000000", "none");
        due("d = -1000000000", "none");
        due("d = 1000000000.00000", "none");
        due("d = 1000000000.00001", "4 at 4");
        due("d = 1000000001", "4 at 4");
        due("d = -1000000001", "4 at 5");
        due("d = 999999999.999999", "none");
        due("d = 999999999.9999999", "4 at 4");
        due("d = 0000000000000001", "4 at 4");
        due("d = 000000000000001", "none");
        due("d = 0.00000000000001", "none");
        due("d = 0.000000000000001", "4 at 4");
        due("f = 1.5", "none");
        due("s % 0 = 1", "4 at 4");
        due("s % -0 = 1", "4 at 5");
        due("s % 000 = 1", "4 at 4");
        due("d % 0.00 = 1", "4 at 4");
        due("f % 0 = 1", "4 at 4");
        due("s % 1.5 = 1", "4 at 4");
        due("s % 3 = 1.5", "4 at 8");
        due("s % 9223372036854775808 = 1", "4 at 4");
        due("d % 0.5 = 0", "none");
        due("s % -3 = 0", "none");
        due("s = 1.5 ~", "4 at 4");
    }

    private static void firstErrorOfAll() {
        due("b and zz = 1.5 or )", "2 at 6");
        due("s = 1.5 and zz", "4 at 4");
        due("s and zz", "3 at 0");
        due("s zz", "1 at 2");
        due("b = zz", "3 at 0");
    }

    private static void results() {
        ColumnTable t = table();
        t.addRows(2);
        Check.due("an unclosed one", Check.error(t, "((b"), "1 at 3");
        Check.due("is forgotten", Check.error(t, "s)"), "1 at 1");
        Check.due("a closed one, too", Check.error(t, "(b) and s)"), "1 at 9");
        Check.due("and the text can end then", Check.error(t, "(b) and x"), "none");
        t.selectAll();
        Check.due("a text with an error", Check.error(t, "zz"), "2 at 0");
        Check.due("the selection stays", t.selectedCount(), 2);
        Check.dueThrow("the buffer is empty", IllegalArgumentException.class, () -> t.trim(1));
        Check.due("no error", Check.error(t, "b is null"), "none");
        Check.due("kind 0", t.errorKind(), 0);
        Check.due("position -1", t.errorPosition(), -1);
        Check.dueThrow("the buffer is empty then, too", IllegalArgumentException.class, () -> t.trim(1));
        Check.error(t, "b %");
        t.selectAll();
        Check.due("kind of the latest call of select", t.errorKind(), 3);
        Check.dueThrow("an empty text", IllegalArgumentException.class, () -> t.select());
        Check.due("its kind", t.errorKind(), 1);
        Check.due("its position", t.errorPosition(), 0);
    }
}
