/** The boundary cases of "What it is" and of sections 1 and 9: calls, lines, TOKENS, FORMS, ATOMS, SHAPES, LINES. */
public final class TextBoundsTest {
    private static final String SIGNS = "+-*/(),:=.";

    public static void main(String[] args) {
        calls();
        lines();
        firstSigns();
        names();
        locals();
        parameters();
        numbers();
        remarks();
        firstIllColumn();
        labels();
        orderWords();
        blanks();
        columns();
        atoms();
        wrongAtoms();
        shapes();
        linesFromNumbers();
        textLengths();
        Due.end();
    }

    /** "An object is used for at most 512 calls": the last one is answered like the first. */
    private static void calls() {
        Twopassworks w = new Twopassworks();
        for (int call = 1; call <= 512; call++) {
            Due.same("knock as call " + call, call, w.knock());
        }
        Twopassworks busy = new Twopassworks();
        for (int call = 0; call < 120; call++) {
            busy.put(call, 0, 2, 1, call, 0);
        }
        for (int call = 120; call < 510; call++) {
            busy.assemble();
        }
        Due.same("call 511", 120, busy.flatLines());
        Due.same("call 512", "00ee 7700  word 119", busy.row(119));
    }

    /** "The SOURCE is a row of at most 120 lines." */
    private static void lines() {
        Twopassworks w = new Twopassworks();
        for (int i = 0; i < 120; i++) {
            Due.same("put " + i, i + 1, w.put(i, 0, 0, 1, i, 0));
        }
        Due.tooEarly("the 121st at the end", () -> w.put(120, 0, 0, 0, 0, 0));
        Due.tooEarly("the 121st at the front", () -> w.put(0, 0, 0, 0, 0, 0));
        Due.same("120 lines", 120, w.lines());
        for (int i = 0; i < 120; i++) {
            Due.same("text " + i, i, w.text(i));
        }
        Due.same("move from end to end", 119, w.move(0, 119));
        Due.same("first then", "1", w.text(0));
        Due.same("last then", "0", w.text(119));
        Due.same("move back", 119, w.move(119, 0));
        Due.same("first again", "0", w.text(0));
        Due.same("last again", "119", w.text(119));
        Due.same("cut the last", 119, w.cut(119));
        Due.same("the 120th again", 120, w.put(60, 0, 0, 1, 999, 0));
        Due.same("what stood there", "60", w.text(61));
        Due.same("cut the first of 120", 119, w.cut(0));
        Due.same("first then", "1", w.text(0));
        Due.same("last then", "118", w.text(118));
        Due.same("cut the first of 119", 118, w.cut(0));
        Due.same("first then", "2", w.text(0));
        w.put(0, 0, 0, 1, 1, 0);
        w.put(0, 0, 0, 1, 0, 0);
        Due.same("cut one within 120", 119, w.cut(60));
        Due.same("what stands there", "60", w.text(60));
        Due.same("the 120th again", 120, w.put(119, 0, 0, 0, 0, 0));
        Due.same("clear all", 120, w.clear());
        Due.same("the first one again", 1, w.put(0, 0, 0, 1, 5, 0));
        Due.same("its text", "5", w.text(0));
    }

    private static int tokens(String text) {
        return Due.source(text).tokens(0);
    }

    /** What each sign of 32 to 126 begins when it stands alone. */
    private static void firstSigns() {
        for (int code = 32; code <= 126; code++) {
            char sign = (char) code;
            Twopassworks w = Due.source("" + sign);
            int kind = sign >= 'a' && sign <= 'z' ? 1 : sign >= '0' && sign <= '9' ? 4
                : SIGNS.indexOf(sign) >= 0 ? 5 : sign == ';' ? 6 : 0;
            Due.same("TOKENS of sign " + code, kind > 0 ? 1 : sign == ' ' ? 0 : -1, w.tokens(0));
            if (kind > 0) {
                Due.same("kind of sign " + code, kind, w.token(0, 0, 0));
                Due.same("3 of sign " + code, kind == 4 ? code - '0' : kind == 5 ? code : 0, w.token(0, 0, 3));
            } else {
                Due.outside("no TOKEN of sign " + code, () -> w.token(0, 0, 0));
            }
        }
    }

    /** "NAME: a small letter, and all small letters, digits and "_" that follow." */
    private static void names() {
        for (int code = 32; code <= 126; code++) {
            char sign = (char) code;
            boolean follows = sign >= 'a' && sign <= 'z' || sign >= '0' && sign <= '9' || sign == '_';
            Twopassworks w = Due.source("x" + sign + ";");
            if (follows) {
                Due.same("length of the NAME with sign " + code, 2, w.token(0, 0, 2));
            } else if (w.tokens(0) > 0) {
                Due.same("length of the NAME ahead of sign " + code, 1, w.token(0, 0, 2));
            } else {
                Due.same("sign " + code + " behind a NAME", -1, w.tokens(0));
            }
        }
        Due.same("a NAME does not begin with _", -1, tokens("_a"));
        Due.same("a digit begins a NUMBER", 2, tokens("1a"));
        Twopassworks full = Due.source("a".repeat(80));
        Due.same("a NAME of 80 signs", 80, full.token(0, 0, 2));
        Due.same("alone", 1, full.tokens(0));
    }

    /** "LOCAL: "@" and a NAME right behind it"; "@" without what it needs is ILL. */
    private static void locals() {
        Due.same("@a", 1, tokens("@a"));
        Due.same("@z", 1, tokens("@z"));
        Due.same("@a1_", 4, Due.source("@a1_").token(0, 0, 2));
        for (String text : new String[] {"@", "@ a", "@1", "@_", "@A", "@@a", "@{", "@`", "@%1", "@;"}) {
            ill(text, 1, 0);
        }
        ill("a@", 1, 1);
        ill("a @", 1, 2);
        Due.same("NAME and LOCAL", 2, tokens("a@a"));
        Due.same("LOCAL and LOCAL", 2, tokens("@a@a"));
    }

    /** "PARAMETER: "%" and one of 1, 2, 3"; "%" without what it needs is ILL. */
    private static void parameters() {
        for (int code = 32; code <= 126; code++) {
            boolean right = code >= '1' && code <= '3';
            Due.same("% and sign " + code, right ? 1 : -1, tokens("%" + (char) code));
        }
        ill("%", 1, 0);
        ill("a %0", 1, 2);
        ill("%4", 1, 0);
        Due.same("one digit alone", 2, tokens("%11"));
        Due.same("the NUMBER behind it", 1, Due.source("%11").token(0, 1, 3));
        Due.same("PARAMETER and NAME", 2, tokens("%3a"));
        Due.same("3 of a PARAMETER", 0, Due.source("%3").token(0, 0, 3));
    }

    private static void number(String text, int number, int signs) {
        Twopassworks w = Due.source(text);
        Due.same("TOKENS of " + text, 1, w.tokens(0));
        Due.same("number of " + text, number, w.token(0, 0, 3));
        Due.same("length of " + text, signs, w.token(0, 0, 2));
        Due.same("FORM of " + text, "" + number, w.form(0));
    }

    /** "with a NUMBER above 65535 it is ILL where that begins"; all digits count, base 16 needs at least one. */
    private static void numbers() {
        number("65535", 65535, 5);
        ill("65536", 2, 0);
        number("$ffff", 65535, 5);
        ill("$10000", 2, 0);
        number("0", 0, 1);
        number("$0", 0, 1);
        number("00000000", 0, 1);
        number("0".repeat(75) + "65535", 65535, 5);
        ill("0".repeat(75) + "65536", 2, 0);
        number("$" + "0".repeat(75) + "ffff", 65535, 5);
        ill("$" + "0".repeat(74) + "10000", 2, 0);
        for (String wraps : new String[] {"65537", "99999", "131072", "4294967296", "4294967297", "2147483648",
            "18446744073709551616", "18446744073709551617", "9".repeat(80), "$100000001", "$10000000000000001",
            "$" + "f".repeat(79)}) {
            ill(wraps, 2, 0);
        }
        number("9999", 9999, 4);
        number("10000", 10000, 5);
        number("$3e7", 999, 3);
        number("$3e8", 1000, 4);
        number("$63", 99, 2);
        number("$64", 100, 3);
        number("$9", 9, 1);
        number("$a", 10, 2);
        ill("$", 1, 0);
        ill("$ f", 1, 0);
        ill("$g", 1, 0);
        ill("$F", 1, 0);
        ill("$$1", 1, 0);
        ill("1$", 1, 1);
        Due.same("base 16 ends at g", 2, tokens("$fg"));
        Due.same("base 10 ends at a", 2, tokens("9a"));
        Due.same("NUMBER and base 16", 2, tokens("1$1"));
        ill("  1 70000", 2, 4);
        ill("  1 $fffff", 2, 4);
    }

    /** "REMARK: ";" and all the rest of the text (without blanks at its two ends)." */
    private static void remarks() {
        String[][] due = {
            // text, FORM, length of the REMARK
            {";", ";", "1"}, {";   ", ";", "1"}, {"; x", "; x", "3"}, {";x  ", "; x", "3"}, {";  a  b ", "; a  b", "6"},
            {";;", "; ;", "3"}, {"; ;", "; ;", "3"}, {";$@%!A_65536", "; $@%!A_65536", "13"}, {"  ;", ";", "1"}};
        for (String[] row : due) {
            Twopassworks w = Due.source(row[0]);
            Due.same("FORM of " + row[0], row[1], w.form(0));
            Due.same("TOKENS of " + row[0], 1, w.tokens(0));
            Due.same("kind of " + row[0], 6, w.token(0, 0, 0));
            Due.same("COLUMN of " + row[0], 0, w.token(0, 0, 1));
            Due.same("length of " + row[0], row[2], w.token(0, 0, 2));
            Due.same("3 of " + row[0], 0, w.token(0, 0, 3));
        }
    }

    private static void ill(String text, int code, int column) {
        Twopassworks w = Due.source(text);
        Due.same("tokens of " + text, -code, w.tokens(0));
        Due.same("form of " + text, text, w.form(0));
        Due.outside("token of " + text, () -> w.token(0, 0, 0));
        Due.same("tidy of " + text, 0, w.tidy());
        Due.same("assemble of " + text, code, w.assemble());
        Due.same("fault of " + text, code + " 0 " + column, w.fault(0) + " " + w.fault(1) + " " + w.fault(2));
        Due.same("flatten of " + text, code, w.flatten());
        Due.same("fault of flatten of " + text, code + " 0 " + column,
            w.fault(0) + " " + w.fault(1) + " " + w.fault(2));
        Due.same("text of " + text, text, w.text(0));
    }

    /** "The first such column counts"; and the first ILL line, ahead of all else. */
    private static void firstIllColumn() {
        ill("65536 A", 2, 0);
        ill("A 65536", 1, 0);
        ill("a 65536 A", 2, 2);
        ill("a  A 65536", 1, 3);
        ill("65536$", 2, 0);
        ill("$%", 1, 0);
        Due.same("the first ILL line", "2 1 0", Due.faultOf("foo", "65536", "A"));
        Due.same("the first ILL line", "1 1 0", Due.faultOf("foo", "A", "65536"));
        Due.same("a line that is never HANDLED", "1 2 0", Due.faultOf("m: macro", "if 0", "A", "end", "end"));
    }

    /** LABEL: the first TOKEN, "if that is a NAME, LOCAL or PARAMETER and the second one is ":"". */
    private static void labels() {
        Due.same("a NAME", "a: b (c)", Due.source("a:b(c)").form(0));
        Due.same("a LOCAL", "@a: b (c)", Due.source("@a:b(c)").form(0));
        Due.same("a PARAMETER", "%1: b (c)", Due.source("%1:b(c)").form(0));
        Due.same("a NUMBER is none", "1: b(c)", Due.source("1:b(c)").form(0));
        Due.same("a SIGN is none", "=: b(c)", Due.source("=:b(c)").form(0));
        Due.same("a REMARK is none", "; :b(c)", Due.source(";:b(c)").form(0));
        Due.same("the third TOKEN is too late", "a b: c(d)", Due.source("a b:c(d)").form(0));
        Due.same("the first one is too early", ": a(b)", Due.source(":a(b)").form(0));
        Due.same("a LABEL alone", "a:", Due.source("a:").form(0));
        Due.same("a LABEL and a second ':'", "a: : b(c)", Due.source("a::b(c)").form(0));
    }

    /** ORDER WORD: "behind LABEL and ":" (without a LABEL the first one), if that is a NAME or PARAMETER". */
    private static void orderWords() {
        Due.same("a NAME", "a (b)", Due.source("a(b)").form(0));
        Due.same("a PARAMETER", "%2 (b)", Due.source("%2(b)").form(0));
        Due.same("a PARAMETER behind a LABEL", "a: %2 (b)", Due.source("a:%2(b)").form(0));
        Due.same("a LOCAL is none", "@a(b)", Due.source("@a(b)").form(0));
        Due.same("a LOCAL behind a LABEL is none", "a: @b(c)", Due.source("a:@b(c)").form(0));
        Due.same("a NUMBER is none", "7(b)", Due.source("7(b)").form(0));
        Due.same("a NUMBER behind a LABEL is none", "a: 7(b)", Due.source("a:7(b)").form(0));
        Due.same("the next NAME is none", "a b(c)", Due.source("a b(c)").form(0));
        Due.same("alone", "a", Due.source(" a ").form(0));
    }

    /** "with one blank between two neighbours if ..; otherwise nothing between". */
    private static void blanks() {
        String[] words = {"a", "@a", "%1", "7"};
        for (String left : words) {
            for (String right : words) {
                Due.same(left + " ahead of " + right, "stop (" + left + " " + right,
                    Due.source("stop(" + left + " " + right).form(0));
            }
            for (int i = 0; i < SIGNS.length(); i++) {
                char sign = SIGNS.charAt(i);
                boolean blank = sign == ':' || sign == ',';
                Due.same(sign + " between " + left, "stop (" + left + sign + (blank ? " " : "") + left,
                    Due.source("stop ( " + left + " " + sign + " " + left).form(0));
            }
            Due.same("a REMARK behind " + left, "stop (" + left + " ; r", Due.source("stop(" + left + ";r").form(0));
        }
        for (int i = 0; i < SIGNS.length(); i++) {
            char sign = SIGNS.charAt(i);
            boolean blank = sign == ':' || sign == ',';
            Due.same(sign + " twice", "stop (" + sign + (blank ? " " : "") + sign,
                Due.source("stop( " + sign + " " + sign).form(0));
            Due.same("a REMARK behind " + sign, "stop (" + sign + " ;", Due.source("stop(" + sign + ";").form(0));
            Due.same("ORDER WORD ahead of " + sign, sign == ':' ? "a:" : "a " + sign, Due.source("a" + sign).form(0));
        }
        Due.same("no neighbour ahead of it", "; r", Due.source(";r").form(0));
    }

    /** "The COLUMN of a TOKEN is where it begins in the FORM"; END of a HANDLED row is without its REMARK. */
    private static void columns() {
        Twopassworks w = Due.source("  a:byte  $ff,@x ;q");
        int[] columns = {0, 1, 3, 8, 11, 13, 16};
        int[] lengths = {1, 1, 4, 3, 1, 2, 3};
        Due.same("TOKENS", columns.length, w.tokens(0));
        for (int i = 0; i < columns.length; i++) {
            Due.same("COLUMN " + i, columns[i], w.token(0, i, 1));
            Due.same("length " + i, lengths[i], w.token(0, i, 2));
        }
        Due.outside("one TOKEN more", () -> w.token(0, 7, 1));
        Due.same("END without the REMARK", "3 0 7", Due.faultOf("byte 1,;x"));
        Due.same("END without a TOKEN", "3 0 4", Due.faultOf("byte;x"));
        Due.same("with x_0 for @x", "3 0 9", Due.faultOf("word @x+,"));
        Due.same("with x_10 for @x", "3 5 10",
            Due.faultOf("repeat 5", "end", "repeat 4", "end", "repeat 1", "word @x+,", "end"));
        Due.same("as it stands", "5 1 4", Due.faultOf("m: macro", "@x: macro", "end", "end"));
    }

    private static String atomOf(int atom) {
        if (atom >= 0 && atom <= 999) {
            return "" + atom;
        }
        if (atom >= 1000 && atom <= 1025) {
            return "" + (char) ('a' + atom - 1000);
        }
        if (atom >= 1100 && atom <= 1125) {
            return "@" + (char) ('a' + atom - 1100);
        }
        if (atom >= 1201 && atom <= 1203) {
            return "%" + (atom - 1200);
        }
        if (atom == 1300) {
            return ".";
        }
        return atom >= 2000 && atom <= 2255 ? "$" + Integer.toHexString(atom - 2000) : null;
    }

    /** ATOM: each number of -2 to 2300, as x and as y. */
    private static void atoms() {
        Twopassworks w = new Twopassworks();
        for (int i = -2; i <= 2300; i++) {
            int atom = i;
            String text = atomOf(atom);
            if (text == null) {
                Due.illegal("x " + atom, () -> w.put(0, 0, 0, 1, atom, 0));
                Due.illegal("y " + atom, () -> w.put(0, 0, 0, 2, 0, atom));
            } else {
                w.put(0, 0, 0, 2, atom, 7);
                Due.same("x " + atom, text + ",7", w.text(0));
                w.cut(0);
                w.put(0, 0, 0, 2, 7, atom);
                Due.same("y " + atom, "7," + text, w.text(0));
                w.cut(0);
            }
        }
        Due.same("no lines", 0, w.lines());
    }

    /** "they are looked at, too, where the SHAPE has no need of them". */
    private static void wrongAtoms() {
        Twopassworks w = Due.assembled("stop");
        int[] wrong = {-1, 1026, 1099, 1126, 1200, 1204, 1299, 1301, 1999, 2256, 65536 + 1000, Integer.MAX_VALUE,
            Integer.MIN_VALUE};
        for (int atom : wrong) {
            for (int shape = 0; shape <= 10; shape++) {
                int its = shape;
                Due.illegal("put shape " + shape + " x " + atom, () -> w.put(0, 0, 0, its, atom, 0));
                Due.illegal("put shape " + shape + " y " + atom, () -> w.put(0, 0, 0, its, 0, atom));
                Due.illegal("trial shape " + shape + " x " + atom, () -> w.trial(0, 0, 0, its, atom, 0));
                Due.illegal("trial shape " + shape + " y " + atom, () -> w.trial(0, 0, 0, its, 0, atom));
                Due.illegal("value shape " + shape + " x " + atom, () -> w.value(its, atom, 0, 0));
                Due.illegal("value shape " + shape + " y " + atom, () -> w.value(its, 0, atom, 0));
            }
        }
        Due.same("one line", 1, w.lines());
    }

    /** SHAPES 0 to 10 with the longest ATOMS, and those beside them. */
    private static void shapes() {
        String[] due = {"", "$ff", "$ff,@z", "$ff+@z", "$ff-@z", "$ff*@z", "$ff/@z", "($ff+@z)*2", "-$ff", "=$ff",
            "=$ff+@z"};
        for (int i = 0; i < due.length; i++) {
            Twopassworks w = new Twopassworks();
            w.put(0, 0, 0, i, 2255, 1125);
            Due.same("SHAPE " + i, due[i], w.text(0));
        }
        Twopassworks w = new Twopassworks();
        for (int shape : new int[] {-1, 11, 100, Integer.MAX_VALUE, Integer.MIN_VALUE}) {
            Due.illegal("SHAPE " + shape, () -> w.put(0, 0, 0, shape, 0, 0));
        }
    }

    /** "label 0 nothing, 1 to 26, 27 to 52; order 0 nothing, 1 to 19, 101 to 126"; with one blank between. */
    private static void linesFromNumbers() {
        String words = "byte word room jump call load stop let part from align share want weak "
            + "macro end repeat if else";
        String[] orders = words.split(" ");
        Twopassworks w = new Twopassworks();
        for (int i = -3; i <= 60; i++) {
            int label = i;
            if (label < 0 || label > 52) {
                Due.illegal("label " + label, () -> w.put(0, label, 0, 0, 0, 0));
                continue;
            }
            w.put(0, label, 0, 0, 0, 0);
            String due = label == 0 ? "" : label <= 26 ? (char) ('a' + label - 1) + ":"
                : "@" + (char) ('a' + label - 27) + ":";
            Due.same("label " + label, due, w.text(0));
            w.cut(0);
        }
        for (int i = -3; i <= 135; i++) {
            int order = i;
            if (order < 0 || order > 19 && order < 101 || order > 126) {
                Due.illegal("order " + order, () -> w.put(0, 0, order, 0, 0, 0));
                continue;
            }
            w.put(0, 0, order, 0, 0, 0);
            String due = order == 0 ? "" : order <= 19 ? orders[order - 1] : "" + (char) ('a' + order - 101);
            Due.same("order " + order, due, w.text(0));
            w.cut(0);
        }
        w.put(0, 0, 101, 1, 5, 0);
        Due.same("an order of one sign", "a 5", w.text(0));
        w.put(0, 1, 126, 1, 1000, 0);
        Due.same("a label and an order of one sign", "a: z a", w.text(0));
        w.clear();
        String[] all = {"", "=1", "stop", "stop =1", "@z:", "@z: =1", "@z: stop", "@z: stop =1"};
        for (int i = 0; i < all.length; i++) {
            w.put(0, (i & 4) != 0 ? 52 : 0, (i & 2) != 0 ? 7 : 0, (i & 1) != 0 ? 9 : 0, 1, 2);
            Due.same("line " + i, all[i], w.text(0));
            w.cut(0);
        }
    }

    /** "if the text has 80 signs or more": at 79 a sign and a REMARK go in, at 80 and more none. */
    private static void textLengths() {
        Twopassworks w = Due.source("a".repeat(79), "a".repeat(79), "a".repeat(79));
        Due.same("sign at 79", 80, w.sign(0, 79, 'b'));
        Due.tooEarly("sign at 80", () -> w.sign(0, 80, 'b'));
        Due.tooEarly("sign at 80, at the front", () -> w.sign(0, 0, 'b'));
        Due.tooEarly("remark at 80", () -> w.remark(0, 0));
        Due.same("text", "a".repeat(79) + "b", w.text(0));
        Due.same("remark at 79", 83, w.remark(1, 9));
        Due.tooEarly("remark at 83", () -> w.remark(1, 9));
        Due.tooEarly("sign at 83", () -> w.sign(1, 83, 'b'));
        Due.same("remark at 79", 84, w.remark(2, 10));
        Due.same("text", "a".repeat(79) + " ;r10", w.text(2));
        Due.same("another text", "a".repeat(79) + " ;r9", w.text(1));
        for (int left = 83; left >= 79; left--) {
            Due.same("rub to " + left, (int) 'a', w.rub(2, 0));
            Due.same("length", left, w.length(2));
        }
        Due.same("sign at 79 again", 80, w.sign(2, 0, 'z'));
        for (int number : new int[] {0, 9, 10, 99}) {
            Twopassworks one = Due.source("stop");
            Due.same("remark " + number, number < 10 ? 8 : 9, one.remark(0, number));
            Due.same("text of remark " + number, "stop ;r" + number, one.text(0));
        }
    }
}
