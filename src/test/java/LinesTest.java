/** Promises 1 to 9 and 12 to 20: the source, its texts, TOKENS and FORMS; sections 1 and 9 of the document. */
public final class LinesTest {
    public static void main(String[] args) {
        newObject();
        textsFromNumbers();
        changes();
        order();
        tokens();
        ill();
        forms();
        tidy();
        knock();
        Due.end();
    }

    private static void newObject() {
        Twopassworks w = new Twopassworks();
        Due.same("lines() at first", 0, w.lines());
        Due.same("fault(0) at first", 0, w.fault(0));
        Due.same("fault(1) at first", -1, w.fault(1));
        Due.same("fault(2) at first", 0, w.fault(2));
        Due.same("clear() of nothing", 0, w.clear());
        Due.same("tidy() of nothing", 0, w.tidy());
        Due.same("assemble() of nothing", 0, w.assemble());
        Due.same("flatLines() of nothing", 0, w.flatLines());
        Due.same("image(1) of nothing", 0, w.image(1));
        Due.same("stretches of nothing", 0, w.image(9));
        Due.same("flatten() of nothing", 0, w.flatten());
    }

    private static String lineOf(int label, int order, int shape, int x, int y) {
        Twopassworks w = new Twopassworks();
        w.put(0, label, order, shape, x, y);
        return w.text(0);
    }

    private static void textsFromNumbers() {
        String words = "byte word room jump call load stop let part from align share want weak "
            + "macro end repeat if else";
        String[] orders = words.split(" ");
        for (int i = 0; i < orders.length; i++) {
            Due.same("order " + (i + 1), orders[i], lineOf(0, i + 1, 0, 0, 0));
        }
        Due.same("order 101", "a", lineOf(0, 101, 0, 0, 0));
        Due.same("order 126", "z", lineOf(0, 126, 0, 0, 0));
        Due.same("nothing", "", lineOf(0, 0, 0, 0, 0));
        Due.same("label 1", "a:", lineOf(1, 0, 0, 0, 0));
        Due.same("label 26", "z:", lineOf(26, 0, 0, 0, 0));
        Due.same("label 27", "@a:", lineOf(27, 0, 0, 0, 0));
        Due.same("label 52", "@z: stop", lineOf(52, 7, 0, 0, 0));
        Due.same("shape alone", "999", lineOf(0, 0, 1, 999, 0));
        Due.same("label and shape", "a: 0", lineOf(1, 0, 1, 0, 0));
        Due.same("all", "b: word 1,2", lineOf(2, 2, 2, 1, 2));
        String[] shapes = {"", "1", "1,a", "1+a", "1-a", "1*a", "1/a", "(1+a)*2", "-1", "=1", "=1+a"};
        for (int i = 1; i < shapes.length; i++) {
            Due.same("shape " + i, shapes[i], lineOf(0, 0, i, 1, 1000));
        }
        int[] atoms = {0, 10, 999, 1000, 1025, 1100, 1125, 1201, 1203, 1300, 2000, 2015, 2016, 2255};
        String[] texts = {"0", "10", "999", "a", "z", "@a", "@z", "%1", "%3", ".", "$0", "$f", "$10", "$ff"};
        for (int i = 0; i < atoms.length; i++) {
            Due.same("atom " + atoms[i], texts[i], lineOf(0, 0, 1, atoms[i], 0));
            Due.same("second atom " + atoms[i], "7," + texts[i], lineOf(0, 0, 2, 7, atoms[i]));
        }
    }

    private static void changes() {
        Twopassworks w = Due.source("stop");
        Due.same("remark", 8, w.remark(0, 0));
        Due.same("remark 99", 13, w.remark(0, 99));
        Due.same("text", "stop ;r0 ;r99", w.text(0));
        Due.same("sign at the front", 14, w.sign(0, 0, 'x'));
        Due.same("sign at the end", 15, w.sign(0, 14, '~'));
        Due.same("sign within", 16, w.sign(0, 1, ' '));
        Due.same("text", "x stop ;r0 ;r99~", w.text(0));
        Due.same("length", 16, w.length(0));
        Due.same("signAt", (int) '~', w.signAt(0, 15));
        Due.same("rub", (int) '~', w.rub(0, 15));
        Due.same("rub at the front", (int) 'x', w.rub(0, 0));
        Due.same("rub within", (int) ';', w.rub(0, 6));
        Due.same("text", " stop r0 ;r99", w.text(0));
        StringBuilder wide = new StringBuilder();
        Twopassworks full = Due.source("");
        for (int i = 0; i < 80; i++) {
            full.sign(0, i, 'a' + i % 26);
            wide.append((char) ('a' + i % 26));
            Due.same("rub of " + (i + 1), (int) 'a', full.rub(0, 0));
            full.sign(0, 0, 'a');
            Due.same("text of " + (i + 1), wide, full.text(0));
        }
        Twopassworks one = Due.source("s");
        Due.same("rub the last sign", (int) 's', one.rub(0, 0));
        Due.same("length", 0, one.length(0));
        Due.outside("rub of nothing", () -> one.rub(0, 0));
    }

    private static String all(Twopassworks w) {
        StringBuilder text = new StringBuilder();
        for (int i = 0; i < w.lines(); i++) {
            text.append(w.text(i));
        }
        return text.toString();
    }

    private static void order() {
        Twopassworks w = Due.source("a", "b", "c", "d", "e");
        Due.same("move on", 2, w.move(1, 3));
        Due.same("moved on", "acdbe", all(w));
        Due.same("move back", 4, w.move(4, 0));
        Due.same("moved back", "eacdb", all(w));
        Due.same("move nowhere", 0, w.move(2, 2));
        Due.same("not moved", "eacdb", all(w));
        Due.same("cut", 4, w.cut(1));
        Due.same("cut the last", 3, w.cut(3));
        Due.same("left", "ecd", all(w));
        Due.same("put at the front", 4, w.put(0, 0, 126, 0, 0, 0));
        Due.same("put within", 5, w.put(2, 0, 125, 0, 0, 0));
        Due.same("put at the end", 6, w.put(5, 0, 124, 0, 0, 0));
        Due.same("after putting", "zeycdx", all(w));
        Due.same("clear", 6, w.clear());
        Due.same("lines()", 0, w.lines());
        Due.same("clear again", 0, w.clear());
    }

    private static String tokensOf(String text) {
        Twopassworks w = Due.source(text);
        StringBuilder all = new StringBuilder();
        int count = w.tokens(0);
        for (int i = 0; i < count; i++) {
            all.append(i > 0 ? " " : "").append(w.token(0, i, 0)).append('.').append(w.token(0, i, 1)).append('.')
                .append(w.token(0, i, 2)).append('.').append(w.token(0, i, 3));
        }
        return all.toString();
    }

    private static void tokens() {
        Due.same("no TOKEN", "", tokensOf(""));
        Due.same("blanks alone", "", tokensOf("   "));
        Due.same("a NAME", "1.0.5.0", tokensOf(" a_9z_"));
        Due.same("NAME, NUMBER, NAME", "4.0.2.12 1.3.2.0", tokensOf("12ab"));
        Due.same("a LOCAL", "2.0.3.0 5.3.1.58", tokensOf("@a1 :"));
        Due.same("a PARAMETER, then a NUMBER", "3.0.2.0 4.3.1.2", tokensOf("%12"));
        Due.same("base 16", "4.0.3.171 1.4.1.0", tokensOf("$0abg"));
        Due.same("a number from many signs", "4.0.1.7", tokensOf("00000000000007"));
        Due.same("the greatest", "4.0.5.65535 4.6.5.65535", tokensOf("65535 $ffff"));
        Due.same("a REMARK", "1.0.4.0 6.5.9.0", tokensOf("stop ; a  b; ! "));
        Due.same("an empty REMARK", "6.0.1.0", tokensOf(";   "));
        String signs = "+-*/(),:=.";
        for (int i = 0; i < signs.length(); i++) {
            Due.same("SIGN " + signs.charAt(i), "5.0.1." + (int) signs.charAt(i), tokensOf(" " + signs.charAt(i)));
        }
    }

    private static void illAs(String text, int code, int column) {
        Twopassworks w = Due.source("stop", text);
        Due.same("tokens of " + text, -code, w.tokens(1));
        Due.same("form of " + text, text, w.form(1));
        Due.same("assemble " + text, code, w.assemble());
        Due.same("line of " + text, 1, w.fault(1));
        Due.same("column of " + text, column, w.fault(2));
    }

    private static void ill() {
        illAs("A", 1, 0);
        illAs("a B", 1, 2);
        illAs("@ a", 1, 0);
        illAs("a @1", 1, 2);
        illAs("@", 1, 0);
        illAs("%0", 1, 0);
        illAs("1 %4", 1, 2);
        illAs("%", 1, 0);
        illAs("$g", 1, 0);
        illAs("  $", 1, 2);
        illAs("_a", 1, 0);
        illAs("a!65536", 1, 1);
        illAs("65536!", 2, 0);
        illAs("a: 99999999999999999999", 2, 3);
        illAs("1 $10000", 2, 2);
        Due.same("no fault in a REMARK", "0 -1 0", Due.faultOf("stop ;!A_@$"));
        Due.same("ILL lines go first", "1 1 0", Due.faultOf("end", "!"));
    }

    private static void formAs(String text, String form) {
        Twopassworks w = Due.source(text);
        Due.same("form of " + text, form, w.form(0));
        Twopassworks again = Due.source(form.length() > 80 ? "" : form);
        if (form.length() <= 80) {
            Due.same("form of the form " + form, form, again.form(0));
        }
    }

    private static void forms() {
        formAs("", "");
        formAs("   ", "");
        formAs(" a :byte 1 , $ff;  r ", "a: byte 1, 255 ; r");
        formAs(";", ";");
        formAs("stop;", "stop ;");
        formAs(";;", "; ;");
        formAs("load = ( a + 007 )", "load =(a+7)");
        formAs("word - a*-1", "word -a*-1");
        formAs("word .+. - .", "word .+.-.");
        formAs("a b c", "a b c");
        formAs("a : b : c", "a: b : c");
        formAs("@a : %1 (", "@a: %1 (");
        formAs("%1:%2%3", "%1: %2 %3");
        formAs("5 : 6", "5: 6");
        formAs("( a )", "(a)");
        formAs("@a + 1", "@a+1");
        formAs("=a 1", "=a 1");
        formAs("$0 00 a0", "0 0 a0");
        formAs("m a,b ,(c)", "m a, b, (c)");
    }

    private static void tidy() {
        Twopassworks w = Due.source("a:byte 1", "b: stop", "! x", " $a ;q");
        Due.same("tidy", 2, w.tidy());
        Due.same("first", "a: byte 1", w.text(0));
        Due.same("second", "b: stop", w.text(1));
        Due.same("ILL", "! x", w.text(2));
        Due.same("last", "10 ; q", w.text(3));
        Due.same("tidy again", 0, w.tidy());
        w.sign(3, 0, ' ');
        w.cut(3);
        Due.same("tidy without the line that was cut", 0, w.tidy());
    }

    private static void knock() {
        Twopassworks w = Due.source("stop");
        Due.same("knock", 1, w.knock());
        w.clear();
        Due.same("knock", 2, w.knock());
        Due.same("lines()", 0, w.lines());
        Due.same("another one's knock", 1, new Twopassworks().knock());
    }
}
