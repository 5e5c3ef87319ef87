import java.math.BigDecimal;
import java.math.RoundingMode;

/** Section 4 of the document, sentence by sentence: the text of a predicate and what it means. */
public final class Section4Test {
    public static void main(String[] args) throws Exception {
        Sentences doc = new Sentences("section", 4, 4);
        doc.at("section 4");
        tokens(doc);
        grammar(doc);
        depth(doc);
        wrongTokens(doc);
        wrongNames(doc);
        wrongTypes(doc);
        wrongNumbers(doc);
        constants(doc);
        unknown(doc);
        tests(doc);
        remainders(doc);
        connectives(doc);
        doc.end();
    }

    /** Columns: s SHORT, c CHAR, l LONG, f FLOAT, d DOUBLE, b and x BOOLEAN. */
    private static ColumnTable named() {
        ColumnTable t = new ColumnTable();
        String names = "sclfdbx";
        int[] types = {1, 2, 3, 4, 5, 0, 0};
        for (int i = 0; i < types.length; i++) {
            Check.column(t, names.substring(i, i + 1), types[i]);
        }
        return t;
    }

    private static void due(String text, String want) {
        Check.due("'" + text + "'", Check.error(named(), text), want);
    }

    private static void fine(String... texts) {
        for (String text : texts) {
            due(text, "none");
        }
    }

    private static String times(int count, String part) {
        return part.repeat(count);
    }

    private static void tokens(Sentences doc) {
        doc.hold("A predicate is a text. Blanks (32) can stand between tokens.", () -> {
            fine("s=1", "s = 1", "s   =   1", "s in 1..2", "s  in  1  ..  2", "s=-1", "s = - 1", "not(b)", "not ( b )");
            fine("(b)and(x)", "s=1and b", "s=1or b", "s%2=1", "s is   not   null", " b ", "b" + times(199, " "));
            for (char other : new char[] {0, 1, 9, 10, 13, 31, 33, 127, 128, 160, 255}) {
                due("s" + other + "= 1", "1 at 1");
                due("s = 1" + other, "1 at 5");
                due(other + "b", "1 at 0");
            }
        });
        doc.hold("The tokens are names (letters a to z, as many as possible),", () -> {
            due("bx", "2 at 0");
            due("notb", "2 at 0");
            due("b andx", "1 at 2");
            due("b and xand b", "2 at 6");
            due("s isnull", "1 at 2");
            due("s inn 1..2", "1 at 2");
            due("abcdefghijklmnopqrstuvwxyz = 1", "2 at 0");
            due("B", "1 at 0");
            due("b and X", "1 at 6");
            due("b`", "1 at 1");
            due("b{", "1 at 1");
        });
        doc.hold("numbers (digits, optionally a point and digits, as many as possible),", () -> {
            fine("s = 0", "s = 0123456789", "d = 12.75", "d = 00.50", "s=5or b");
            due("s = 12 34", "1 at 7");
            due("d = 1 . 5", "1 at 6");
            due("s = 5x", "1 at 5");
            due("s = /", "1 at 4");
            due("s = :", "1 at 4");
            due("d = 1.5.5", "1 at 7");
        });
        doc.hold("and the symbols ( ) % .. - = <> < <= > >= (the longest possible symbol is read;", () -> {
            fine("(s%2=-1)", "s in 1..2", "s<>1", "s<1", "s<=1", "s>1", "s>=1", "s<-1", "s>=-1", "s=-1", "s%-2<>-1");
            due("s < > 1", "1 at 4");
            due("s < = 1", "1 at 4");
            due("s > = 1", "1 at 4");
            due("s =< 1", "1 at 3");
            due("s => 1", "1 at 3");
            due("s >< 1", "1 at 3");
            due("s <=> 1", "1 at 4");
            due("s == 1", "1 at 3");
            due("s <<1", "1 at 3");
            due("s in 1 . . 2", "1 at 7");
            due("s in 1....2", "1 at 8");
            for (char other : "!\"#$&'*+,/:;?@[\\]^_`{|}~".toCharArray()) {
                due("s " + other + " 1", "1 at 2");
            }
        });
        doc.hold("a point belongs to a number only if a digit precedes and a digit follows it).", () -> {
            fine("s in 1..2", "d in 1.5..2.5", "d in 0.5 ..1");
            due("d = 1.", "1 at 5");
            due("d = .5", "1 at 4");
            due("d = 1. 5", "1 at 5");
            due("d = 1 .5", "1 at 6");
            due("d = 1.x", "1 at 5");
            due("d = -.5", "1 at 5");
            due("d in 1...5", "1 at 8");
            due("d in 1.5.. .5", "1 at 11");
            due("d in 1. .2", "1 at 6");
        });
    }

    private static void grammar(Sentences doc) {
        doc.hold("Here { x } means x any number of times, also none, [ x ] means x or nothing, and | separates alternatives:", () -> {
            fine("b", "b or x", times(39, "b or ") + "b", times(33, "b and ") + "x");
            fine("s = 1", "s = -1", "b is null", "b is not null");
            due("b is not not null", "1 at 9");
            due("s = --1", "1 at 5");
        });
        doc.hold("predicate = conjunction { or conjunction }", () -> {
            fine("b or x or b or x", "b and x or b and x");
            due("or b", "1 at 0");
            due("b or", "1 at 4");
            due("b or or x", "1 at 5");
            due("b or and x", "1 at 5");
            due("b x", "1 at 2");
            due("", "1 at 0");
        });
        doc.hold("conjunction = factor { and factor }", () -> {
            fine("b and x and b and x", "b and not x and (b)");
            due("and b", "1 at 0");
            due("b and", "1 at 5");
            due("b and and x", "1 at 6");
            due("b and or x", "1 at 6");
        });
        doc.hold("factor = not factor | \"(\" predicate \")\" | test", () -> {
            fine("not b", "not not b", "(b)", "((b))", "(b or x) and (x or b)", "not (b or not x)", "(not b)");
            due("()", "1 at 1");
            due("not", "1 at 3");
            due("not and b", "1 at 4");
            due("not )", "1 at 4");
            due("b not", "1 at 2");
            due("(b", "1 at 2");
            due("(b))", "1 at 3");
            due(")", "1 at 0");
            due("(b) (x)", "1 at 4");
            due("(b) not x", "1 at 4");
            due("(b) is null", "1 at 4");
            due("(s) = 1", "3 at 1");
        });
        doc.hold("test = name is [ not ] null |", () -> {
            fine("s is null", "b is not null", "d is null and b");
            due("s is", "1 at 4");
            due("s is not", "1 at 8");
            due("s is b", "1 at 5");
            due("s is null null", "1 at 10");
            due("s not null", "1 at 2");
            due("s null", "1 at 2");
            due("is null", "1 at 0");
            due("s % 2 is null", "1 at 6");
        });
        doc.hold("name in constant \"..\" constant |", () -> {
            fine("s in 1 .. 2", "s in -2 .. -1", "d in -0.5 .. 0.5", "s in 2 .. 1");
            due("s in", "1 at 4");
            due("s in 1", "1 at 6");
            due("s in 1 ..", "1 at 9");
            due("s in 1 2", "1 at 7");
            due("s in ..", "1 at 5");
            due("s in c .. 2", "1 at 5");
            due("s in 1 .. c", "1 at 10");
            due("s not in 1 .. 2", "1 at 2");
            due("s in not 1 .. 2", "1 at 5");
            due("s in (1 .. 2)", "1 at 5");
            due("s in 1 .. 2 .. 3", "1 at 12");
            due("s in 1 .. 2 = 1", "1 at 12");
            due("1 in 1 .. 2", "1 at 0");
        });
        doc.hold("name [ \"%\" constant ] comparison constant |", () -> {
            fine("s % 3 = 1", "s % -3 <> -1", "d % 0.5 < 0.25", "s = 1");
            due("s %", "1 at 3");
            due("s % 3", "1 at 5");
            due("s % 3 =", "1 at 7");
            due("s % c = 1", "1 at 4");
            due("s % 3 = c", "1 at 8");
            due("s % 3 % 2 = 1", "1 at 6");
            due("s % 3 in 1 .. 2", "1 at 6");
            due("s % = 1", "1 at 4");
            due("3 % 2 = 1", "1 at 0");
            due("s = 1 = 1", "1 at 6");
            due("s = (1)", "1 at 4");
            due("s = not", "1 at 4");
        });
        doc.hold("name comparison name | name", () -> {
            fine("s = c", "d < f", "b", "s=s");
            due("s = -c", "1 at 5");
            due("s = c % 2", "1 at 6");
            due("s = c = l", "1 at 6");
            due("s = null", "1 at 4");
            due("s = in", "1 at 4");
            due("1 = s", "1 at 0");
            due("b 1", "1 at 2");
        });
        doc.hold("comparison = \"=\" | \"<>\" | \"<\" | \"<=\" | \">\" | \">=\"", () -> {
            fine("s=1", "s<>1", "s<1", "s<=1", "s>1", "s>=1", "s=c", "s<>c", "s<c", "s<=c", "s>c", "s>=c");
            due("s .. 1", "1 at 2");
            due("s - 1", "1 at 2");
            due("s ! 1", "1 at 2");
        });
        doc.hold("constant = [ \"-\" ] number", () -> {
            fine("s = 1", "s = -1", "s = - 1", "s = -0", "d = -0.5", "s in -2..-1", "s % -2 = -1");
            due("s = -", "1 at 5");
            due("s = - -1", "1 at 6");
            due("s = +1", "1 at 4");
            due("s = 1-", "1 at 5");
            due("s in 1 .. --2", "1 at 11");
            due("s % - = 1", "1 at 6");
        });
        doc.hold("The six words and, or, not, is, null, in are not names.", () -> {
            for (String word : new String[] {"and", "or", "is", "null", "in"}) {
                due(word, "1 at 0");
                due(word + " = 1", "1 at 0");
                due("b and " + word, "1 at 6");
                due("s = " + word, "1 at 4");
            }
            due("not = 1", "1 at 4");
            due("s = not", "1 at 4");
        });
    }

    private static void depth(Sentences doc) {
        doc.hold("A factor can be nested at most 20 deep: the depth of the outermost predicate is 1,", () -> {
            fine(times(19, "(") + "b" + times(19, ")"), times(19, "not ") + "b");
            due(times(20, "(") + "b" + times(20, ")"), "1 at 19");
            due(times(20, "not ") + "b", "1 at 76");
            due(times(200, "("), "1 at 19");
            due(times(18, "(") + "b" + times(18, ")") + "and " + times(20, "("), "1 at " + (18 + 1 + 18 + 4 + 19));
        });
        doc.hold("and it increases by 1 behind each \"(\" up to its \")\"", () -> {
            fine(times(19, "(") + "b" + times(19, ")") + " and " + times(19, "(") + "b" + times(19, ")"));
            fine(times(18, "(") + "(b) and (b) or (b)" + times(18, ")"));
            due(times(18, "(") + "(b) and ((b))" + times(18, ")"), "1 at " + (18 + 9));
            due(times(18, "(") + "b) and (b and (b", "1 at " + (18 + 16));
            due(times(18, "(") + "b) and (b and ((b", "1 at " + (18 + 15));
        });
        doc.hold("and behind each not for its factor.", () -> {
            fine(times(19, "not ") + "b and " + times(19, "not ") + "b");
            fine(times(9, "not(") + "not b" + times(9, ")"));
            due(times(9, "not(") + "not not b" + times(9, ")"), "1 at " + (9 * 4 + 4));
            due(times(9, "not(") + "not (b)" + times(9, ")"), "1 at " + (9 * 4 + 4));
            due(times(10, "not(") + "b" + times(10, ")"), "1 at " + (9 * 4 + 3));
            fine(times(19, "(") + "b is not null" + times(19, ")"));
        });
    }

    private static void wrongTokens(Sentences doc) {
        doc.hold("Errors of a predicate text. The text is read from left to right, and the first error is reported with its kind"
                + " and position, counted in bytes from 0.", () -> {
            due("zz and s = 1.5 and b b", "2 at 0");
            due("b and s = 1.5 and zz", "4 at 10");
            due("b b and zz", "1 at 2");
            due("s and zz", "3 at 0");
            due("b and (x or zz", "2 at 12");
            due("   zz", "2 at 3");
            due(times(50, "b or ").substring(0, 195) + "   zz", "2 at 198");
            due(times(195, " ") + "s = 1", "none");
            due(times(195, " ") + "s = ~", "1 at 199");
        });
        doc.hold("Kind 1: the first byte of the first token with which the tokens so far are not the beginning of a predicate;", () -> {
            due("b   and   and x", "1 at 10");
            due("s = 1   25", "1 at 8");
            due("s in 1 .. <= 2", "1 at 10");
            due("b null", "1 at 2");
        });
        doc.hold("or a byte with which no token begins;", () -> {
            due("~", "1 at 0");
            due("b and ~", "1 at 6");
            due("s . 1", "1 at 2");
            due("s in 1 . 2", "1 at 7");
            due("s in 1 .. .", "1 at 10");
            due("b A", "1 at 2");
            due("b ~ zz", "1 at 2");
            due("s = 1~", "1 at 5");
        });
        doc.hold("or the \"(\" or not after which the depth would be 21;", () -> {
            due(times(19, "(") + "not b", "1 at 19");
            due(times(19, "not ") + "(b)", "1 at 76");
            due(times(19, "(") + " ( zz", "1 at 20");
            due(times(19, "(") + "not", "1 at 19");
        });
        doc.hold("if the text ends too early, the position is its length.", () -> {
            due("", "1 at 0");
            due("  ", "1 at 2");
            due("b and", "1 at 5");
            due("b and   ", "1 at 8");
            due("((b)", "1 at 4");
            due("s = ", "1 at 4");
            due(times(40, "b or "), "1 at 200");
            due("b and" + times(195, " "), "1 at 200");
        });
    }

    private static void wrongNames(Sentences doc) {
        doc.hold("Kind 2: a name that is not the name of a column; it is found when the name has been read.", () -> {
            due("zz", "2 at 0");
            due("zz ~", "2 at 0");
            due("zz = zy", "2 at 0");
            due("not zz", "2 at 4");
            due("(zz", "2 at 1");
            due("s = zz", "2 at 4");
            due("s = zz ~", "2 at 4");
            due("f >= ss", "2 at 5");
            due("ss = 1", "2 at 0");
            due("bb", "2 at 0");
            due("b zz", "1 at 2");
            due("s in zz .. 1", "1 at 5");
            Check.due("no columns", Check.error(new ColumnTable(), "b"), "2 at 0");
        });
    }

    private static void wrongTypes(Sentences doc) {
        doc.hold("Kind 3: a name whose column does not have the right type, with the position of this name.", () -> {
            due("x and   b = 1", "3 at 8");
            due("x and   s", "3 at 8");
            due("s   =   d", "3 at 8");
        });
        doc.hold("A name followed by \"in\", \"%\" or a comparison must not be BOOLEAN,", () -> {
            due("b in 1 .. 2", "3 at 0");
            due("b % 2 = 1", "3 at 0");
            for (String comparison : new String[] {"=", "<>", "<", "<=", ">", ">="}) {
                due("b " + comparison + " 1", "3 at 0");
                due("b " + comparison + " x", "3 at 0");
                fine("s " + comparison + " 1", "d " + comparison + " 1");
            }
            due("b in", "3 at 0");
            due("b %", "3 at 0");
            due("b =", "3 at 0");
            due("b = ~", "3 at 0");
            fine("b is null", "b is not null");
        });
        doc.hold("and a name that is a whole test must be BOOLEAN;", () -> {
            for (String name : new String[] {"s", "c", "l", "f", "d"}) {
                due(name, "3 at 0");
                due("not " + name, "3 at 4");
                due(name + " and b", "3 at 0");
                due(name + " or b", "3 at 0");
                due("(" + name + ")", "3 at 1");
            }
            fine("b", "x");
        });
        doc.hold("this is found when the token behind the name has been read, if this token can stand there (the end of the text"
                + " counts as such a token; it can stand there if every \"(\" has its \")\").", () -> {
            due("s and ~", "3 at 0");
            due("s or zz", "3 at 0");
            due("s ~", "1 at 2");
            due("s s", "1 at 2");
            due("s 5", "1 at 2");
            due("s (b)", "1 at 2");
            due("s not", "1 at 2");
            due("s null", "1 at 2");
            due("s ..", "1 at 2");
            due("s - 1", "1 at 2");
            due("s)", "1 at 1");
            due("(s)", "3 at 1");
            due("(s))", "3 at 1");
            due("(b) and s)", "1 at 9");
            due("((b) and s)", "3 at 9");
            due("s", "3 at 0");
            due("s   ", "3 at 0");
            due("(s", "1 at 2");
            due("(s  ", "1 at 4");
            due("((b) and s", "1 at 10");
            due("(b) and s", "3 at 8");
            ColumnTable t = named();
            Check.due("an unclosed one", Check.error(t, "((b"), "1 at 3");
            Check.due("is not one of the next text", Check.error(t, "s)"), "1 at 1");
            Check.due("which can end then", Check.error(t, "s"), "3 at 0");
        });
        doc.hold("A second name must be of an integer type if the first one is, and of a floating type if the first one is; this is"
                + " found when the second name has been read.", () -> {
            for (String whole : new String[] {"s", "c", "l"}) {
                for (String real : new String[] {"f", "d"}) {
                    due(whole + " = " + real, "3 at 4");
                    due(real + " = " + whole, "3 at 4");
                    due(real + " <= " + whole + " ~", "3 at 5");
                }
                due(whole + " = b", "3 at 4");
                fine(whole + " = s", whole + " = c", whole + " = l");
            }
            due("f = b", "3 at 4");
            fine("f = d", "d = f", "f = f", "d = d");
        });
    }

    private static void wrongNumbers(Sentences doc) {
        doc.hold("Kind 4: a number that is not allowed, with the position of its first byte (not that of the -):", () -> {
            due("s =   1.5", "4 at 6");
            due("s = -1.5", "4 at 5");
            due("s = -   1.5", "4 at 8");
            due("d in -1000000001 .. 1", "4 at 6");
        });
        doc.hold("for an integer column a number with a point,", () -> {
            for (String name : new String[] {"s", "c", "l"}) {
                due(name + " = 1.0", "4 at 4");
                due(name + " in 1.5 .. 2", "4 at 5");
                due(name + " in 1 .. 2.5", "4 at 10");
                due(name + " % 1.5 = 1", "4 at 4");
                due(name + " % 2 = 0.0", "4 at 8");
            }
            fine("d = 1.0", "f = 1.0", "s in 1..2");
        });
        doc.hold("or one that is outside the range of long together with its -;", () -> {
            fine("l = 9223372036854775807", "l = -9223372036854775807", "l = -9223372036854775808", "s = -  9223372036854775808");
            fine("c = 65536", "s = 32768", "s = 9223372036854775807", "l = 0000000000000000000000009223372036854775807");
            due("l = 9223372036854775808", "4 at 4");
            due("l = -9223372036854775809", "4 at 5");
            due("l = 9223372036854775810", "4 at 4");
            due("l = 18446744073709551616", "4 at 4");
            due("l = 18446744073709551617", "4 at 4");
            due("l = 36893488147419103232", "4 at 4");
            due("l = 99999999999999999999999999", "4 at 4");
            due("l in -9223372036854775808 .. 9223372036854775808", "4 at 29");
            due("l % 9223372036854775808 = 1", "4 at 4");
            fine("l % -9223372036854775808 = -9223372036854775808");
        });
        doc.hold("for a floating column a number with more than 15 digits", () -> {
            for (String name : new String[] {"f", "d"}) {
                fine(name + " = 000000000000001", name + " = 0.12345678901234", name + " = 123456789.012345");
                due(name + " = 0000000000000001", "4 at 4");
                due(name + " = 0.123456789012345", "4 at 4");
                due(name + " = 123456789.0123456", "4 at 4");
                due(name + " = 1.000000000000000", "4 at 4");
                due(name + " % 0.000000000000001 = 0", "4 at 4");
                fine(name + " % 0.00000000000001 = 0");
                due(name + " = " + "1".repeat(100), "4 at 4");
            }
        });
        doc.hold("or of more than 10^9;", () -> {
            for (String name : new String[] {"f", "d"}) {
                fine(name + " = 1000000000", name + " = -1000000000", name + " = 1000000000.00000");
                fine(name + " = 999999999.999999", name + " in -1000000000 .. 1000000000");
                due(name + " = 1000000000.00001", "4 at 4");
                due(name + " = 1000000001", "4 at 4");
                due(name + " = -1000000001", "4 at 5");
                due(name + " = 999999999999999", "4 at 4");
                due(name + " % 1000000000.1 = 0", "4 at 4");
            }
        });
        doc.hold("behind \"%\" a number that is 0.", () -> {
            for (String zero : new String[] {"0", "000", "-0", "- 0"}) {
                int position = 4 + zero.length() - zero.replace("-", "").replace(" ", "").length();
                for (String name : new String[] {"s", "c", "l", "f", "d"}) {
                    due(name + " % " + zero + " = 0", "4 at " + position);
                }
            }
            due("d % 0.00 = 1", "4 at 4");
            due("f % 0.00000000000000 = 1", "4 at 4");
            fine("s % 1 = 0", "s = 0", "d = 0.0", "s in 0 .. 0", "d % 0.00000000000001 = 0", "f % 0.1 = 0");
        });
        doc.hold("It is found when the number has been read.", () -> {
            due("s = 1.5 ~", "4 at 4");
            due("s in 1.5 zz", "4 at 5");
            due("s % 0 ~", "4 at 4");
            due("s % 0", "4 at 4");
            due("s in 1 2.5", "1 at 7");
            due("s 1.5", "1 at 2");
        });
    }

    private static void constants(Sentences doc) {
        doc.hold("The constant of a floating column is the double that is nearest to the decimal number;", () -> {
            String[] numbers = {"0.1", "0.3", "123456.789012345", "999999999.999999", "0.00000000000001", "0.00000000000003",
                "1.7", "2.675", "100000000.000001", "4.35", "0.33333333333333", "33333.3333333333", "1000000000"};
            for (String number : numbers) {
                double value = Double.parseDouble(number);
                ColumnTable t = Tables.doubles(16, 5, Math.nextDown(value), value, -value, -Math.nextDown(value));
                Check.due(number, Check.picked(t, "a = " + number), "1 / 4");
                Check.due("-" + number, Check.picked(t, "a = -" + number), "2 / 4");
                Check.due("more than " + number, Check.picked(t, "a >= " + number), "1 / 4");
            }
        });
        doc.hold("if the column is FLOAT, it is then rounded to the nearest float.", () -> {
            ColumnTable t = Tables.doubles(16, 4, 0.1f, 16777216, 16777218, 16777220, 1e9);
            Check.due("0.1", Check.picked(t, "a = 0.1"), "0 / 5");
            Check.due("more digits", Check.picked(t, "a = 0.10000000149"), "0 / 5");
            Check.due("a tie to the lower one", Check.picked(t, "a = 16777217"), "1 / 5");
            Check.due("a tie to the upper one", Check.picked(t, "a = 16777219"), "3 / 5");
            Check.due("just above a tie", Check.picked(t, "a = 16777217.000001"), "2 / 5");
            Check.due("999999999 is nearest to 10^9", Check.picked(t, "a = 999999999"), "4 / 5");
            Check.due("in a range", Check.picked(t, "a in 0.1 .. 16777217"), "0 1 / 5");
            // The doubles nearest to these are ties of two floats, which the numbers themselves are not.
            float f = Float.intBitsToFloat(1082130437);
            ColumnTable up = Tables.doubles(16, 4, f, Math.nextUp(f));
            Check.due("a little less than a tie, rounded twice", Check.picked(up, "a = 4.00000262260437"), "1 / 2");
            float g = Float.intBitsToFloat(1082130454);
            ColumnTable down = Tables.doubles(16, 4, g, Math.nextUp(g));
            Check.due("a little more than a tie, rounded twice", Check.picked(down, "a = 4.00001072883606"), "0 / 2");
        });
    }

    /** Columns a LONG and b BOOLEAN; rows: 1 true, 2 false, null true, null false, 1 null, null null. */
    private static ColumnTable withNulls() {
        ColumnTable t = Tables.of(16, 3, 0);
        long[][] rows = {{1, 1}, {2, 0}, {-1, 1}, {-1, 0}, {1, -1}, {-1, -1}};
        for (long[] row : rows) {
            for (int c = 0; c < 2; c++) {
                t.setNull(c);
                if (row[c] >= 0) {
                    t.setLong(c, row[c]);
                }
            }
            t.addRows(1);
        }
        return t;
    }

    private static void picked(String text, String want) {
        ColumnTable t = withNulls();
        Check.due(text, Check.picked(t, text).replaceAll(" ?/.*", ""), want);
    }

    private static void unknown(Sentences doc) {
        doc.hold("Meaning. A predicate yields true, false or unknown for a row.", () -> {
            picked("a = 1", "0 4");
            picked("not a = 1", "1");
            picked("a is null", "2 3 5");
        });
        doc.hold("A test whose column (or one of whose columns) is null in the row is unknown, except is null and is not null,"
                + " which are true or false.", () -> {
            for (String test : new String[] {"a = 1", "a in 1 .. 1", "a % 2 = 1"}) {
                picked(test, "0 4");
                picked("not " + test, "1");
            }
            picked("b", "0 2");
            picked("not b", "1 3");
            picked("a = a", "0 1 4");
            picked("not a = a", "");
            picked("not a is null", "0 1 4");
            picked("not a is not null", "2 3 5");
            ColumnTable t = Tables.of(16, 3, 1);
            t.setLong(0, 1);
            t.addRows(1);
            t.setNull(0);
            t.setLong(1, 1);
            t.addRows(1);
            Check.due("one of two columns", Check.picked(t, "a = b or not a = b"), "/ 0");
            Check.due("in this order, too", Check.picked(t, "b = a or not b = a"), "/ 0");
        });
        doc.hold("name is the value of a BOOLEAN column.", () -> {
            picked("b", "0 2");
            picked("not b", "1 3");
        });
    }

    private static void tests(Sentences doc) {
        doc.hold("The comparisons compare numbers (0 and -0 are equal;", () -> {
            ColumnTable t = Tables.longs(16, 3, Long.MIN_VALUE, -1, 0, 1, Long.MAX_VALUE);
            Check.due("=", Check.picked(t, "a = 0"), "2 / 5");
            Check.due("<>", Check.picked(t, "a <> 0"), "0 1 3 4 / 5");
            Check.due("<", Check.picked(t, "a < 0"), "0 1 / 5");
            Check.due("<=", Check.picked(t, "a <= 0"), "0 1 2 / 5");
            Check.due(">", Check.picked(t, "a > 0"), "3 4 / 5");
            Check.due(">=", Check.picked(t, "a >= 0"), "2 3 4 / 5");
            Check.due("the least long", Check.picked(t, "a <= -9223372036854775808"), "0 / 5");
            Check.due("the greatest long", Check.picked(t, "a >= 9223372036854775807"), "4 / 5");
            ColumnTable s = Tables.longs(16, 1, -32768, 32767);
            Check.due("a SHORT with a number beyond its range", Check.picked(s, "a < 32768"), "0 1 / 2");
            ColumnTable z = Tables.doubles(16, 5, -0.0, 0.0);
            Check.due("zeros", Check.picked(z, "a = 0 and a = -0 and a >= 0 and a <= -0"), "0 1 / 8");
        });
        doc.hold("a value of type LONG, SHORT or CHAR is compared with one of these types, FLOAT and DOUBLE with each other).", () -> {
            ColumnTable t = Tables.of(16, 1, 2, 3, 4, 5);
            t.setLong(0, -1);
            t.setLong(1, 65535);
            t.setLong(2, -1);
            t.setDouble(3, 0.1);
            t.setDouble(4, 0.1);
            t.addRows(1);
            Check.due("-1 as a SHORT is not 65535 as a CHAR", Check.picked(t, "a < b"), "0 / 1");
            Check.due("SHORT and LONG", Check.picked(t, "a = c"), "0 / 1");
            Check.due("CHAR and LONG", Check.picked(t, "b > c"), "0 / 1");
            Check.due("the float 0.1 is more than the double", Check.picked(t, "d > e"), "0 / 1");
            Check.due("and not the same", Check.picked(t, "d = e"), "/ 1");
            t.setDouble(4, 0.1f);
            t.selectAll();
            t.update(4);
            Check.due("until they are", Check.picked(t, "d = e"), "0 / 1");
        });
        doc.hold("name in a .. b means a <= name <= b.", () -> {
            ColumnTable t = Tables.longs(16, 3, 4, 5, 6, 7);
            Check.due("both ends belong to it", Check.picked(t, "a in 5 .. 6"), "1 2 / 4");
            Check.due("one number", Check.picked(t, "a in 5 .. 5"), "1 / 4");
            Check.due("a > b", Check.picked(t, "a in 6 .. 5"), "/ 4");
            Check.due("not in it", Check.picked(t, "not a in 5 .. 6"), "0 3 / 4");
            Check.due("all longs", Check.picked(t, "a in -9223372036854775808 .. 9223372036854775807"), "0 1 2 3 / 4");
        });
    }

    private static void remainders(Sentences doc) {
        doc.hold("name % c is the remainder of the value divided by c with the quotient rounded toward 0;", () -> {
            ColumnTable t = Tables.longs(16, 3, 7, -7, 6, Long.MIN_VALUE, Long.MAX_VALUE);
            Check.due("7 % 4", Check.picked(t, "a % 4 = 3"), "0 4 / 5");
            Check.due("-7 % 4", Check.picked(t, "a % 4 = -3"), "1 / 5");
            Check.due("% -4", Check.picked(t, "a % -4 = 3"), "0 4 / 5");
            Check.due("% 1", Check.picked(t, "a % 1 = 0"), "0 1 2 3 4 / 5");
            Check.due("% 1 is never 1", Check.picked(t, "a % 1 = 1 or a % -1 = -1"), "/ 10");
            Check.due("% -1, also of the least long", Check.picked(t, "a % -1 = 0"), "0 1 2 3 4 / 5");
            Check.due("% the least long", Check.picked(t, "a % -9223372036854775808 = 0"), "3 / 5");
            Check.due("% the greatest long", Check.picked(t, "a % 9223372036854775807 = -1"), "3 / 5");
            Check.due("less than", Check.picked(t, "a % 4 < 0"), "1 / 5");
        });
        doc.hold("it has the sign of the value or is 0;", () -> {
            ColumnTable t = Tables.doubles(16, 5, 7.5, -7.5, -8, -0.0);
            Check.due("of a positive value", Check.picked(t, "a % 2 = 1.5"), "0 / 4");
            Check.due("of a negative value", Check.picked(t, "a % 2 = -1.5"), "1 / 4");
            Check.due("not of c", Check.picked(t, "a % -2 = 1.5 or a % -2 = -1.5"), "0 1 / 8");
            Check.due("0", Check.picked(t, "a % 2 = 0"), "2 3 / 4");
            Check.due("0 is not less than 0", Check.picked(t, "a % 2 < 0"), "1 / 4");
        });
        doc.hold("for the floating types it is exact.", () -> {
            double[] values = {1e9, 999999999.125, 123456.789, 3.3, 1e-14, 0.3, 1e-300};
            String[] divisors = {"0.00000000000001", "0.00000000000007", "0.1", "0.3", "7", "123.456", "1000000000"};
            for (double value : values) {
                for (String divisor : divisors) {
                    exactRemainder(5, value, divisor, Double.parseDouble(divisor));
                    exactRemainder(4, (float) value, divisor, Float.parseFloat(divisor));
                }
            }
        });
    }

    /** Compares with the nearest numbers of 15 digits below and above the remainder that Java's % gives exactly. */
    private static void exactRemainder(int type, double value, String divisor, double c) {
        BigDecimal rest = new BigDecimal(value % c);
        int scale = 15 - rest.toBigInteger().toString().length();
        for (RoundingMode mode : new RoundingMode[] {RoundingMode.FLOOR, RoundingMode.CEILING}) {
            String number = rest.setScale(scale, mode).toPlainString();
            double bound = type == 4 ? Float.parseFloat(number) : Double.parseDouble(number);
            ColumnTable t = Tables.doubles(16, type, value);
            Check.due(value + " % " + divisor + " >= " + number,
                    Check.picked(t, "a % " + divisor + " >= " + number), value % c >= bound ? "0 / 1" : "/ 1");
            ColumnTable u = Tables.doubles(16, type, -value);
            Check.due(-value + " % -" + divisor + " < -" + number,
                    Check.picked(u, "a % -" + divisor + " < -" + number), -(value % c) < -bound ? "0 / 1" : "/ 1");
        }
    }

    private static void connectives(Sentences doc) {
        // Rows 0 to 8 of x and y: true, false and unknown with true, false and unknown.
        ColumnTable t = Tables.of(16, 0, 0);
        for (int i = 0; i < 9; i++) {
            for (int c = 0; c < 2; c++) {
                int value = c == 0 ? i / 3 : i % 3;
                t.setNull(c);
                if (value < 2) {
                    t.setLong(c, 1 - value);
                }
            }
            t.addRows(1);
        }
        doc.hold("not true is false, not false is true, not unknown is unknown.", () -> {
            Check.due("not", Check.picked(t, "not a"), "3 4 5 / 0");
            Check.due("not not", Check.picked(t, "not not a"), "0 1 2 / 0");
        });
        doc.hold("x and y is false if one of them is false, otherwise unknown if one of them is unknown, otherwise true.", () -> {
            Check.due("true", Check.picked(t, "a and b"), "0 / 0");
            Check.due("false", Check.picked(t, "not (a and b)"), "1 3 4 5 7 / 0");
        });
        doc.hold("x or y is true if one of them is true, otherwise unknown if one of them is unknown, otherwise false.", () -> {
            Check.due("true", Check.picked(t, "a or b"), "0 1 2 3 6 / 0");
            Check.due("false", Check.picked(t, "not (a or b)"), "4 / 0");
            Check.due("and before or", Check.picked(t, "a or b and a"), "0 1 2 / 0");
            Check.due("or in parentheses", Check.picked(t, "(a or b) and b"), "0 3 6 / 0");
        });
    }
}
