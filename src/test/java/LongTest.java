/** Rows, texts and NAMES that are long: the document sets no bound to them (sections 1 and 3, promises 10 to 19). */
public final class LongTest {
    public static void main(String[] args) {
        longRow();
        longText();
        faultsFarBehind();
        longerEachTime();
        withoutSignsBetween();
        shortAgain();
        rubbed();
        rubbedWhereArgumentsMeet();
        reckonedAnew();
        tidied();
        tidiedNames();
        tidiedHeads();
        namesWrittenOutOrNot();
        headsOfArguments();
        readAgain();
        oneOfSeveral();
        longNames();
        namesInOrder();
        namesMuchAlike();
        namesOutOfStep();
        signsThatWait();
        endlessValues();
        Due.end();
    }

    /** Macros m, n, o, p that hand their argument on so many times each, with a text between; the last one's row. */
    private static Twopassworks handedOn(int times, String between, String first, int levels, String call) {
        Twopassworks w = new Twopassworks();
        String many = String.join(between, java.util.Collections.nCopies(times, "%1"));
        for (int level = 0; level < levels; level++) {
            char next = (char) ('m' + level + 1);
            Due.line(w, 3 * level, (char) ('m' + level) + ":macro");
            Due.line(w, 3 * level + 1, level == levels - 1 ? first + many : next + " " + many);
            w.put(3 * level + 2, 0, 16, 0, 0, 0);
        }
        Due.line(w, w.lines(), call);
        return w;
    }

    private static String fault(Twopassworks w) {
        return w.fault(0) + " " + w.fault(1) + " " + w.fault(2);
    }

    private static String many(String one, String between, int times) {
        return String.join(between, java.util.Collections.nCopies(times, one));
    }

    private static void longRow() {
        Twopassworks w = handedOn(36, "", "stop ", 3, "m " + "+".repeat(60));
        Due.same("assemble() with 2799360 TOKENS behind stop", 3, w.assemble());
        Due.same("fault behind stop", "3 7 5", fault(w));
        Due.same("flatten() with them", 3, w.flatten());
        Twopassworks sum = handedOn(24, "+", "word ", 3, "m a+1");
        Due.same("assemble() with an unknown NAME in a long row", 9, sum.assemble());
        Due.same("fault of it", "9 7 5", fault(sum));
        sum = handedOn(20, "+", "word ", 3, "m a");
        Due.line(sum, sum.lines(), "weak a");
        Due.same("assemble() of 8000 NAMES", 0, sum.assemble());
        Due.same("TOKENS of it", 16000, sum.ofFlat(0, 9));
        Due.same("its number", 0, sum.ofFlat(0, 10));
        Due.same("its row", "0000 0000  word " + many("a", "+", 8000), sum.row(0));
        Due.same("how many FLAT lines USE a", 2, sum.ofSymbol(0, 4));
        Due.same("the first", 0, sum.use(0, 0));
        Due.same("isSound()", true, sum.isSound());
        Due.same("digest()", Digest.of(sum), sum.digest());
    }

    private static void longText() {
        String name = "n".repeat(70);
        Twopassworks w = handedOn(24, "+", "word ", 3, "m " + name);
        Due.same("flatten()", 0, w.flatten());
        Due.same("lines()", 1, w.lines());
        Due.same("length", 5 + 24 * 24 * 24 * 71 - 1, w.length(0));
        Due.same("tokens", 2 * 24 * 24 * 24, w.tokens(0));
        String text = "word " + many(name, "+", 24 * 24 * 24);
        Due.same("text", text, w.text(0));
        Due.same("form", text, w.form(0));
        for (int column : new int[] {0, 4, 5, 74, 75, 76, 500000, 981507}) {
            Due.same("sign at " + column, (int) text.charAt(column), w.signAt(0, column));
        }
        Due.outside("no sign there", () -> w.signAt(0, 981508));
        Due.outside("no TOKEN there", () -> w.token(0, 27648, 0));
        Due.same("a far NAME", "1 981438 70 0", token(w, 27647));
        Due.same("a far SIGN", "5 981437 1 43", token(w, 27646));
        Due.same("the word", "1 0 4 0", token(w, 0));
        Due.same("tidy()", 0, w.tidy());
        Due.same("digest()", Digest.of(w), w.digest());
        Due.tooEarly("sign in it", () -> w.sign(0, 7, 43));
        Due.tooEarly("remark behind it", () -> w.remark(0, 7));
        Due.same("move", 0, w.move(0, 0));
        Due.same("cut", 0, w.cut(0));
        Due.same("a new line", 1, w.put(0, 0, 7, 0, 0, 0));
        Due.same("its text", "stop", w.text(0));
    }

    private static String token(Twopassworks w, int place) {
        return w.token(0, place, 0) + " " + w.token(0, place, 1) + " " + w.token(0, place, 2) + " "
            + w.token(0, place, 3);
    }

    private static void faultsFarBehind() {
        Twopassworks w = handedOn(20, "+", "word b+", 3, "m 0*1");
        w.put(w.lines(), 0, 14, 1, 1001, 0);
        Due.line(w, 7, "word b+" + many("%1", "+", 20) + "/0");
        w.cut(8);
        Due.same("assemble() with /0 far behind", 13, w.assemble());
        // 8000 times "0*1" with "+" between
        Due.same("fault", "13 7 " + (5 + 2 + 8000 * 4 - 1), fault(w));
        w = handedOn(20, "+", "word ", 3, "m 9");
        Due.same("assemble() of 8000 times 9", 12, w.assemble());
        // the sign ahead of the 7282nd one goes above 65535
        Due.same("RANGE", "12 7 " + (5 + 7281 * 2 - 1), fault(w));
        w = handedOn(20, "+", "word ", 3, "m (((-1)))");
        Due.same("assemble() four deep", 6, w.assemble());
        Due.same("DEEP", "6 7 8", fault(w));
        w = handedOn(20, "+", "word 7*", 3, "m 2+2+2+2+2+-(-((1)))");
        Due.same("assemble() four deep behind a few", 6, w.assemble());
        Due.same("DEEP behind a few", "6 7 20", fault(w));
        w = handedOn(20, "+", "word 7*", 3, "m 2+2+2+2+2 b");
        Due.same("assemble() with a NAME too many", 3, w.assemble());
        Due.same("LINE behind a few", "3 7 17", fault(w));
        w = handedOn(20, "+", "word 7*", 3, "m 2+2+2+2+2*b");
        Due.line(w, 7, "word (7*" + many("%1", "+", 20) + " 7");
        w.cut(8);
        Due.same("assemble() with a NUMBER too many behind all", 3, w.assemble());
        Due.same("LINE behind all", "3 7 " + (5 + 3 + 8000 * 12 - 1 + 1), fault(w));
        w = handedOn(20, "", "word b", 3, "m +1-1");
        Due.same("assemble() without b", 9, w.assemble());
        w.put(w.lines(), 2, 8, 1, 7, 0);
        Due.same("assemble() with it", 0, w.assemble());
        Due.same("number", 7, w.ofFlat(0, 10));
        Due.line(w, 0, "b: let " + "c");
        Due.same("assemble() with it twice", 8, w.assemble());
        w = handedOn(15, "+", "l: let ", 3, "m a");
        Due.same("let of what is unknown", 9, w.assemble());
        Due.same("UNKNOWN", "9 7 7", fault(w));
        w.put(w.lines(), 1, 8, 1, 1011, 0);
        Due.same("let each of the other", 14, w.assemble());
        Due.same("ROUND", "14 7 7", fault(w));
        w = handedOn(15, "+", "room ", 3, "m 0");
        Due.same("room of a long sum", 0, w.assemble());
        w = handedOn(15, "+", "room 1+", 3, "m 0+a-a");
        Due.line(w, 0, "a: let 5");
        Due.same("room of a long sum of KNOWN NAMES", 0, w.assemble());
        Due.same("its SIZE", 1, w.ofFlat(1, 5));
        w = handedOn(15, "+", "word ", 3, "m y-z");
        Due.line(w, 0, "y:");
        Due.line(w, 1, "z:");
        Due.line(w, 9, "word " + many("%1", "+", 15) + "+y*2");
        w.cut(10);
        Due.same("BASE far behind", 11, w.assemble());
        Due.same("BASE", "11 9 " + (5 + 3375 * 4 + 1), fault(w));
    }

    /** Turns the "word .." of the line 0 into a macro's argument. */
    private static void callAgain(Twopassworks w, String... macro) {
        w.rub(0, 0);
        w.rub(0, 0);
        w.rub(0, 0);
        w.put(0, 4, 15, 0, 0, 0);
        for (int i = 0; i < macro.length; i++) {
            Due.line(w, i + 1, macro[i]);
        }
        w.put(macro.length + 1, 0, 16, 0, 0, 0);
        Due.same("flatten() again", 0, w.flatten());
    }

    /** The same with "word %1+%1" in few calls. */
    private static void twice(Twopassworks w) {
        w.rub(0, 0);
        w.rub(0, 0);
        w.rub(0, 0);
        w.put(0, 4, 15, 0, 0, 0);
        w.put(1, 0, 2, 3, 1201, 1201);
        w.put(2, 0, 16, 0, 0, 0);
        Due.same("flatten() again", 0, w.flatten());
    }

    private static void longerEachTime() {
        Twopassworks w = Due.source("word a", "weak a");
        for (int i = 1; i <= 22; i++) {
            twice(w);
            int times = 1 << i;
            Due.same("length of " + times, 4 + 2 * times, w.length(0));
            Due.same("tokens of " + times, 2 * times, w.tokens(0));
        }
        Due.same("assemble() of 4194304 NAMES", 0, w.assemble());
        Due.same("isSound()", true, w.isSound());
        Due.same("number", 0, w.ofFlat(0, 10));
        Due.same("TOKENS", 8388608, w.ofFlat(0, 9));
        Due.same("trial()", -3, w.trial(0, 0, 1, 0, 0, 0));
        Due.same("fault() is left", "0 -1 0", fault(w));
        Due.same("the last sign", (int) 'a', w.signAt(0, 8388611));
        Due.same("tidy()", 0, w.tidy());
        long d = w.digest();
        Due.same("rub()", (int) '+', w.rub(0, 5000000));
        Due.same("tokens", 8388606, w.tokens(0));
        Due.same("a NAME of two signs", "1 4999999 2 0", token(w, 4999995));
        Due.same("assemble()", 9, w.assemble());
        Due.same("UNKNOWN", "9 0 4999999", fault(w));
        Due.same("digest() is another", true, d != w.digest());
    }

    private static void withoutSignsBetween() {
        String[] terms = {"+1-1", "*(1)", "-b*2", "/1"};
        for (String term : terms) {
            Twopassworks w = handedOn(12, "", "word 3", 3, "m " + term);
            w.put(w.lines(), 2, 8, 1, 7, 0);
            Due.same(term + " flatten()", 0, w.flatten());
            String text = "word 3" + term.repeat(1728);
            Due.same(term + " text", text, w.text(0));
            Due.same(term + " form", text, w.form(0));
            Due.same(term + " tidy()", 0, w.tidy());
            Due.same(term + " tokens", tokensOf(text), w.tokens(0));
            Due.same(term + " assemble()", 0, w.assemble());
            Due.same(term + " digest()", Digest.of(w), w.digest());
            for (int i = 5; i > 0; i--) {
                w.rub(0, 1 << 2 * i);
                text = text.substring(0, 1 << 2 * i) + text.substring((1 << 2 * i) + 1);
            }
            Due.same(term + " text then", text, w.text(0));
            Due.same(term + " tokens then", tokensOf(text), w.tokens(0));
            Due.same(term + " digest() then", Digest.of(w), w.digest());
        }
    }

    /** What macros share in a row stands in a short text as any other sign. */
    private static void shortAgain() {
        String text = "word 1+b+1+1+c2-1+b+1+1+c2";
        for (int column = 0; column <= text.length(); column++) {
            for (char sign : new char[] {'7', 'x', '_', ' ', '@', '%', '$', ';', '(', ':'}) {
                Twopassworks w = Due.source("m: macro", "word %1-%1", "end", "m 1+b+1+1+c2");
                Due.same("flatten()", 0, w.flatten());
                Due.same("length with " + sign, text.length() + 1, w.sign(0, column, sign));
                String then = text.substring(0, column) + sign + text.substring(column);
                Due.same("text with " + sign, then, w.text(0));
                Twopassworks plain = Due.source(then);
                Due.same("form of " + then, plain.form(0), w.form(0));
                Due.same("tokens of " + then, plain.tokens(0), w.tokens(0));
            }
        }
    }

    private static void rubbed() {
        Twopassworks w = handedOn(12, "+", "word ", 3, "m (abc*12)-7");
        Due.same("flatten()", 0, w.flatten());
        StringBuilder text = new StringBuilder("word " + many("(abc*12)-7", "+", 1728));
        Due.same("text", text.toString(), w.text(0));
        int column = 17;
        for (int i = 0; i < 60; i++) {
            column = (column * 389 + 12) % text.length();
            Due.same("rub " + column, (int) text.charAt(column), w.rub(0, column));
            text.deleteCharAt(column);
            Due.same("tokens after rub " + column, tokensOf(text.toString()), w.tokens(0));
            if (i % 10 == 9) {
                Due.same("text after " + column, text.toString(), w.text(0));
                Due.same("digest after " + column, Digest.of(w), w.digest());
            }
        }
        // NUMBERS that become one
        w = handedOn(12, "+", "word ", 3, "m 65*3");
        Due.same("flatten()", 0, w.flatten());
        Due.same("tokens", 1 + 1728 * 4 - 1, w.tokens(0));
        Due.same("rub +", (int) '+', w.rub(0, 5 + 5 * 300 + 4));
        Due.same("tokens without +", 1 + 1728 * 4 - 3, w.tokens(0));
        Due.same("365", "4 1508 3 365", token(w, 1203));
        Due.same("rub *", (int) '*', w.rub(0, 5 + 5 * 300 + 2));
        Due.same("65365", "4 1505 5 65365", token(w, 1201));
        Due.same("assemble()", 12, w.assemble());
        Due.same("65365*3", "12 0 1510", fault(w));
        Due.same("rub the next *", (int) '*', w.rub(0, 1510));
        Due.same("653653", -2, w.tokens(0));
        Due.same("form of an ILL text", w.text(0), w.form(0));
        Due.same("assemble()", 2, w.assemble());
        Due.same("where it is ILL", "2 0 1505", fault(w));
        Due.same("tidy()", 0, w.tidy());
        // a NAME's first letter gone, what follows is ILL
        Twopassworks x = handedOn(12, "+", "word ", 3, "m a_b");
        Due.same("flatten()", 0, x.flatten());
        Due.same("rub a", (int) 'a', x.rub(0, 5 + 4 * 1000));
        Due.same("tokens", -1, x.tokens(0));
        Due.same("assemble()", 1, x.assemble());
        Due.same("where it is ILL", "1 0 4005", fault(x));
    }

    /** What one argument ends and the next one begins with becomes one TOKEN, or two without a blank. */
    private static void rubbedWhereArgumentsMeet() {
        for (String term : new String[] {"b*(c-d)*e", "12*b-(c)*3", "x2-(c+c)/9", "7*(a-b)*n", "(a*b+c)-(b)"}) {
            for (int from = 1; from <= 9; from += 4) {
                Twopassworks w = handedOn(9, "+", "word ", 3, "m " + term);
                Due.same("flatten()", 0, w.flatten());
                StringBuilder text = new StringBuilder("word " + many(term, "+", 729));
                int[] terms = {from, 9 * from, 81 * from, 81 * from + 9, 81 * from + 10};
                for (int i = 0; i < terms.length; i++) {
                    int column = 5 + terms[i] * (term.length() + 1) - 1;
                    int gone = 5 + 729 * (term.length() + 1) - 1 - text.length();
                    column -= gone;
                    if (column < text.length() && text.charAt(column) == '+') {
                        Due.same(term + " rub " + column, (int) '+', w.rub(0, column));
                        text.deleteCharAt(column);
                        Due.same(term + " tokens after " + column, tokensOf(text.toString()), w.tokens(0));
                    }
                }
                Due.same(term + " text", text.toString(), w.text(0));
                Due.same(term + " digest()", Digest.of(w), w.digest());
            }
        }
    }

    /** How many TOKENS a text of NAMES, NUMBERS and SIGNS has; minus 1 or 2 if it is ILL. */
    private static int tokensOf(String text) {
        int count = 0;
        int at = 0;
        while (at < text.length()) {
            char sign = text.charAt(at);
            int from = at;
            if (sign >= 'a' && sign <= 'z') {
                while (at < text.length() && Character.isLetterOrDigit(text.charAt(at))) {
                    at++;
                }
            } else if (Character.isDigit(sign)) {
                while (at < text.length() && Character.isDigit(text.charAt(at))) {
                    at++;
                }
                if (Integer.parseInt(text.substring(from, at)) > 65535) {
                    return -2;
                }
            } else {
                at++;
            }
            count += sign == ' ' ? 0 : 1;
        }
        return count;
    }

    private static void tidied() {
        Twopassworks w = handedOn(12, "+", "a: word ", 3, "m b*10");
        Due.same("flatten()", 0, w.flatten());
        String sum = many("b*10", "+", 1728);
        Due.same("text", "a: word " + sum, w.text(0));
        w.rub(0, 2);
        w.rub(0, 6);
        w.rub(0, 8);
        Due.same("text", "a:wordb*0" + sum.substring(4), w.text(0));
        Due.same("form of it", "a: wordb *0" + sum.substring(4), w.form(0));
        Due.same("tidy()", 1, w.tidy());
        Due.same("text of it", "a: wordb *0" + sum.substring(4), w.text(0));
        Due.same("tidy() again", 0, w.tidy());
        w.rub(0, 9);
        w.rub(0, 0);
        w.rub(0, 0);
        w.rub(0, 6);
        Due.same("leading and missing blanks", " wordb0" + sum.substring(4), w.text(0));
        Due.same("its FORM", "wordb0 " + sum.substring(4), w.form(0));
        Due.same("tidy() of them", 1, w.tidy());
        Due.same("text then", w.form(0), w.text(0));
        // the ORDER WORD in what macros share
        w = handedOn(12, "+", "word ", 3, "m b+c");
        Due.same("flatten()", 0, w.flatten());
        sum = many("b+c", "+", 1728);
        for (int i = 0; i < 5; i++) {
            w.rub(0, 0);
        }
        Due.same("text without a word", sum, w.text(0));
        Due.same("its FORM", "b " + sum.substring(1), w.form(0));
        Due.same("the SIGN behind", "5 2 1 43", token(w, 1));
        Due.same("tidy()", 1, w.tidy());
        Due.same("text", "b " + sum.substring(1), w.text(0));
    }

    /** What a long argument comes to is reckoned anew for each FLAT line, each EXPRESSION and each source. */
    private static void reckonedAnew() {
        Twopassworks w = Due.source("m: macro", "word 0-0+%1", "word 5,0+%1", "word 0-0+%1", "end",
            "m a+2+3+4+5+6+7+(.-b)", "b:", "n: macro", "room 0+0+%1", "end", "n k+0+0+0+0+0", "a: let 1");
        for (int a = 1; a <= 6; a++) {
            Due.line(w, 0, "k: let " + a);
            w.cut(w.lines() - 1);
            w.put(w.lines(), 1, 8, 1, a, 0);
            Due.same("assemble() with " + a, 0, w.assemble());
            Due.same("the point of the first row", a + 27 - 8, w.ofFlat(1, 10));
            Due.same("the point of the second row", a + 27 + 2 - 8, w.byteAt(4));
            Due.same("the point of the third row", a + 27 + 6 - 8, w.ofFlat(3, 10));
            Due.same("SIZE of room", a, w.ofFlat(5, 5));
            w.cut(0);
        }
    }

    /** A long NAME that has come together in a text is the same in its FORM: there is nothing to tidy. */
    private static void tidiedNames() {
        String name = "n".repeat(70);
        Twopassworks w = handedOn(24, "+", "word ", 2, "m " + name);
        Due.same("flatten()", 0, w.flatten());
        Due.same("rub of a sign between NAMES", (int) '+', w.rub(0, 5 + 70));
        Due.same("rub of another one", (int) '+', w.rub(0, 5 + 3 * 70 + 1));
        String text = "word " + name + name + "+" + name + name + many("+" + name, "", 572);
        Due.same("text", text, w.text(0));
        Due.same("form", text, w.form(0));
        Due.same("tidy()", 0, w.tidy());
        Due.same("rub of the blank", (int) ' ', w.rub(0, 4));
        Due.same("tidy() of one NAME more", 1, w.tidy());
        String then = "word" + name + name + " +" + text.substring(146);
        Due.same("text then", then, w.text(0));
        Due.same("tidy() again", 0, w.tidy());
        Due.same("digest()", Digest.of(w), w.digest());
        // a long NAME that is new, behind a blank that is new; another line is read then
        w = handedOn(24, "+", "word ", 2, "m 5*" + name);
        Due.same("flatten()", 0, w.flatten());
        for (int column : new int[] {6, 76, 76, 76}) {
            w.rub(0, column);
        }
        Due.same("tidy() of a NUMBER ahead of a NAME", 1, w.tidy());
        Due.line(w, 1, "weak b");
        Due.same("tokens of another line", 2, w.tokens(1));
        then = "word 5 " + name + name + many("+5*" + name, "", 574);
        Due.same("text behind that", then, w.text(0));
        Due.same("length behind that", then.length(), w.length(0));
    }

    /** What macros share comes to stand at a text's head when the first 12 terms, which do not, are rubbed out. */
    private static void tidiedHeads() {
        String sum = many("b+c", "+", 1728);
        for (int gone = 40; gone <= 52; gone++) {
            for (int head = 0; head < 5; head++) {
                String first = head == 3 ? "aa: word " : head == 4 ? "aa: load =" : "word ";
                Twopassworks w = handedOn(12, "+", first, 3, "m b+c");
                Due.same("flatten()", 0, w.flatten());
                int from = w.text(0).indexOf(sum);
                for (int i = 0; i < gone; i++) {
                    w.rub(0, from);
                }
                if (head == 1) {
                    w.rub(0, 4);
                }
                for (int i = 0; head == 2 && i < 5; i++) {
                    w.rub(0, 0);
                }
                Twopassworks plain = Due.source(w.text(0).substring(0, 60));
                String form = plain.form(0) + w.text(0).substring(60);
                String text = w.text(0);
                Due.same("form of " + text.substring(0, 30), form, w.form(0));
                Due.same("tidy() of " + text.substring(0, 30), form.equals(text) ? 0 : 1, w.tidy());
                Due.same("text then", form, w.text(0));
                Due.same("tidy() again", 0, w.tidy());
                Due.same("digest()", Digest.of(w), w.digest());
            }
        }
    }

    /** The same NAME stands in one place as macros have handed it on, in another one as it was rubbed. */
    private static void namesWrittenOutOrNot() {
        String name = "n".repeat(70);
        Twopassworks w = handedOn(24, "+", "word ", 2, "m " + name);
        Due.same("flatten()", 0, w.flatten());
        for (int column : new int[] {75, 216, 200}) {
            w.rub(0, column);
        }
        callAgain(w, "word %1-(%1)");
        String longer = "n".repeat(140);
        String shorter = "n".repeat(139);
        String rest = "+" + shorter + many("+" + name, "", 572);
        String text = "word " + longer + rest + "-(" + longer + rest + ")";
        Due.same("text", text, w.text(0));
        int second = text.indexOf('(') + 1;
        Due.same("rub of the second one", (int) 'n', w.rub(0, second + 100));
        text = "word " + longer + rest + "-(" + shorter + rest + ")";
        Due.same("tidy()", 0, w.tidy());
        Due.same("text then", text, w.text(0));
        Due.same("rub of the first one", (int) 'n', w.rub(0, 100));
        text = "word " + shorter + rest + "-(" + shorter + rest + ")";
        Due.same("tidy() again", 0, w.tidy());
        Due.same("form", text, w.form(0));
        Due.same("rub of a sign between NAMES", (int) '+', w.rub(0, 144));
        Due.same("rub of another one", (int) '-', w.rub(0, text.indexOf('-') - 1));
        text = "word " + shorter + shorter + many("+" + name, "", 572) + "(" + shorter + rest + ")";
        Due.same("tidy() without the signs", 0, w.tidy());
        Due.same("text at last", text, w.text(0));
        Due.line(w, 1, "weak " + name);
        Due.same("tokens of another line", 2, w.tokens(1));
        Due.same("text is left", text, w.text(0));
        Due.same("assemble()", 3, w.assemble());
        Due.same("LINE", "3 0 " + text.indexOf('('), fault(w));
        Due.same("digest()", Digest.of(w), w.digest());
    }

    private static void headsOfArguments() {
        Twopassworks w = Due.source("m: macro", "%1", "end", "n: macro", "m %1 : word %2", "end",
            "o: macro", "n %1, %1+%1+%1+%1+%1", "end", "o a", "weak a");
        Due.same("assemble() with a LABEL in an argument", 11, w.assemble());
        Due.same("BASE", "11 1 9", fault(w));
        w = Due.source("m: macro", "%1", "end", "n: macro", "m word %1+%1+%1+%1", "end", "o: macro",
            "n %1+%1+%1+%1+%1", "end", "o b+c+c*2", "weak b", "weak c");
        Due.same("flatten() with an order in an argument", 0, w.flatten());
        Due.same("its text", "word " + many("b+c+c*2", "+", 20), w.text(0));
        w = Due.source("m: macro", "load %1", "end", "n: macro", "m = %1+%1+%1+%1", "end", "n b+c+c*2", "weak b",
            "weak c");
        Due.same("assemble() with = in an argument", 0, w.assemble());
        Due.same("its LITERAL", 1, w.part(0, 5));
        Due.same("its FORM", "load =" + many("b+c+c*2", "+", 4), w.flat(0));
        w = Due.source("m: macro", "%1", "end", "n: macro", "m a%1+%1+%1+%1", "end", "n b+c+c*2");
        Due.same("assemble() with a wrong order in an argument", 4, w.assemble());
        Due.same("ORDER", "4 1 0", fault(w));
        w = Due.source("m: macro", "byte %1%1", "end", "n: macro", "m %1+%1+%1+%1", "end", "n b+c+c*2");
        Due.same("assemble() with two arguments side by side", 3, w.assemble());
        Due.same("LINE", "3 1 " + (5 + 4 * 8 - 1 + 1 - 0), fault(w));
        w = Due.source("m: macro", "byte %1", "end", "n: macro", "m %1+%1+%1+%1%2", "end", "n b+c+c*2");
        Due.same("assemble() without an argument", 16, w.assemble());
        Due.same("ARGUMENT", "16 4 14", fault(w));
        w = Due.source("m: macro", "byte %1,%2", "end", "n: macro", "m %1+%1+%1+%1,%1*%1*%1", "end", "n b*c+c*2",
            "weak b", "c: let 1");
        Due.same("assemble() with two long arguments", 0, w.assemble());
        Due.same("FORM", "byte " + many("b*c+c*2", "+", 4) + ", " + many("b*c+c*2", "*", 3), w.flat(0));
        w = Due.source("m: macro", "n %1,%1,%1,%1", "end", "n: macro", "end", "m " + many("b", "+", 20));
        Due.same("assemble() with a fourth argument", 3, w.assemble());
        Due.same("LINE at it", "3 1 " + (2 + 3 * 41), fault(w));
        w = Due.source("m: macro", "n %1 %1, 2,3,4", "end", "n: macro", "end", "m a b c d e f 1 2 3: 4");
        Due.same("assemble() with a fourth argument behind blanks", 3, w.assemble());
        // "a b c d e f 1 2 3: 4" is 20 signs long
        Due.same("LINE behind blanks", "3 1 " + (2 + 20 + 1 + 20 + 3 * 2 + 2), fault(w));
        Due.same("isSound()", true, w.isSound());
    }

    private static void readAgain() {
        Twopassworks w = handedOn(12, "-", "x: word y-y+", 3, "m a-a-b");
        Due.line(w, w.lines(), "a: let 3");
        Due.line(w, w.lines(), "y: weak b");
        Due.same("assemble() with a LABEL at weak", 3, w.assemble());
        w.rub(w.lines() - 1, 0);
        w.rub(w.lines() - 1, 0);
        Due.line(w, w.lines(), "y: call x");
        Due.same("assemble()", 0, w.assemble());
        long bytes = w.byteAt(0) + 256 * w.byteAt(1);
        Due.same("flatten()", 0, w.flatten());
        Due.same("assemble() of what was flattened", 0, w.assemble());
        Due.same("bytes", bytes, (long) w.byteAt(0) + 256 * w.byteAt(1));
        Due.same("changed()", 0, w.changed(0));
        Due.same("FLAT line and text", w.text(0), w.flat(0));
        Due.same("clear()", 4, w.clear());
        Due.same("FLAT line is left", "x: word y-y+" + many("a-a-b", "-", 1728), w.flat(0));
        Due.same("digest()", Digest.of(w), w.digest());
        Due.line(w, 0, "stop");
        Due.same("flatten()", 0, w.flatten());
        Due.same("isSound() by what is left", true, w.isSound());
        Due.same("FLAT line is left then", "x: word y-y+" + many("a-a-b", "-", 1728), w.flat(0));
    }

    /** What is left of the SOURCE's long texts is read right when others of them are gone. */
    private static void oneOfSeveral() {
        for (int kept = 0; kept < 3; kept++) {
            Twopassworks w = handedOn(12, "+", "word ", 3, "m aa");
            Due.line(w, w.lines(), "m bb*3");
            Due.line(w, w.lines(), "m cc-cc");
            Due.same("flatten()", 0, w.flatten());
            Due.same("lines()", 3, w.lines());
            String[] due = {"aa", "bb*3", "cc-cc"};
            for (int i = 2; i >= 0; i--) {
                due[i] = "word " + many(due[i], "+", 1728);
                Due.same("text " + i, due[i], w.text(i));
                if (i != kept) {
                    w.cut(i);
                }
            }
            for (String text : new String[] {"want w", "weak aa", "weak bb", "weak cc"}) {
                Due.line(w, 0, text);
            }
            Due.same("text of the one that is left", due[kept], w.text(4));
            Due.same("assemble()", 0, w.assemble());
            Due.same("flat of the one that is left", due[kept], w.flat(4));
            Due.same("how many TOKENS", w.tokens(4), w.ofFlat(4, 9));
            for (int i = 0; i < 3; i++) {
                Due.same("what USES SYMBOL " + i, i == kept ? 2 : 1, w.ofSymbol(i, 4));
            }
            Due.same("trial", 0, w.trial(3, 0, 0, 0, 0, 0));
            Due.same("digest()", Digest.of(w), w.digest());
        }
    }

    private static void longNames() {
        Twopassworks w = Due.source("word a+a", "weak b");
        int size = 1;
        for (int i = 0; i < 22; i++) {
            w.rub(0, 5 + size);
            size *= 2;
            Due.same("length of a NAME of " + size, 5 + size, w.length(0));
            Due.same("its TOKEN", "1 5 " + size + " 0", token(w, 1));
            if (i < 21) {
                twice(w);
            }
        }
        Due.same("assemble()", 9, w.assemble());
        callAgain(w, "weak %1", "word %1");
        Due.same("text of weak", 5 + size, w.length(0));
        Due.same("assemble() with weak", 0, w.assemble());
        Due.same("how many SYMBOLS", 2, w.image(5));
        Due.same("the first one", "a".repeat(size), w.symbol(0));
        Due.same("the second one", "b", w.symbol(1));
        Due.same("what it is", 4, w.ofSymbol(0, 0));
        Due.same("how many USE it", 2, w.ofSymbol(0, 4));
        // a sign fewer in one line: another NAME
        Due.same("rub()", (int) 'a', w.rub(1, 5 + size / 3));
        Due.same("assemble() with another one", 9, w.assemble());
        Due.same("UNKNOWN", "9 1 5", fault(w));
        // and in the other line, elsewhere: the same one
        w.rub(0, 5 + size / 2 + 7);
        Due.same("assemble() with the same one", 0, w.assemble());
        Due.same("SYMBOL", size - 1, w.symbol(0).length());
        Due.same("digest()", Digest.of(w), w.digest());
    }

    private static void namesInOrder() {
        String name = "n".repeat(60);
        Twopassworks w = Due.source("d: macro", "weak %1", "weak %1a", "end", "word " + name, "want c");
        w.cut(2);
        Due.same("flatten()", 0, w.flatten());
        for (int i = 0; i < 4; i++) {
            callAgain(w, "word %1+%1", "word %1");
            for (int line = 0; line < 1; line++) {
                w.rub(line, w.text(line).indexOf('+'));
            }
        }
        // lines of 960, 480, 240, 120 and 60 times n; each becomes a SYMBOL
        for (int line = 0; line < 5; line++) {
            w.rub(line, 0);
            w.rub(line, 0);
            w.rub(line, 0);
        }
        w.put(0, 4, 15, 0, 0, 0);
        Due.line(w, 1, "weak %1");
        w.put(2, 0, 16, 0, 0, 0);
        Due.same("assemble()", 0, w.assemble());
        StringBuilder sizes = new StringBuilder();
        for (int i = 0; i < w.image(5); i++) {
            sizes.append(w.symbol(i).length()).append(' ');
        }
        Due.same("SYMBOLS by their texts", "1 60 120 240 480 960 ", sizes.toString());
        Due.same("flatten()", 0, w.flatten());
        // "a" or "0" is no part of a NAME of n alone: what is rubbed is a sign fewer
        w.rub(0, 500);
        w.rub(1, 100);
        Due.same("assemble()", 0, w.assemble());
        Due.same("digest()", Digest.of(w), w.digest());
        Due.same("isSound()", true, w.isSound());
    }

    /** Two NAMES for which a checksum is the same. */
    private static void namesMuchAlike() {
        String[] names = {
            "c0anc0ananc0anananananc0c0ananc0c0c0c0c0c0c0c0c0anc0anc0c0anc0anananc0",
            "ananc0anananc0c0ananananc0c0c0c0c0anc0c0anananc0anananc0anc0c0c0anc0c0",
            "c0anc0c0anc0ananc0ananc0c0ananc0c0c0c0c0ananc0anc0anc0c0c0anananc0anc0",
            "c0ananc0ananc0c0c0c0anananc0anc0c0ananc0anc0c0anananananc0c0ananananc0",
        };
        Twopassworks w = new Twopassworks();
        for (int i = 0; i < 2; i++) {
            Due.line(w, 0, "d:macro");
            Due.line(w, 1, "word %1+" + names[2 * i + 1]);
            w.put(2, 0, 16, 0, 0, 0);
            Due.line(w, 3, "d " + names[2 * i]);
            Due.same("flatten()", 0, w.flatten());
            w.rub(0, 75);
        }
        Due.same("two NAMES", names[2] + names[3], w.text(0).substring(5));
        Due.same("and the other one", names[0] + names[1], w.text(1).substring(5));
        callAgain(w, "weak %1");
        Due.same("assemble() with one of them weak", 9, w.assemble());
        Due.same("UNKNOWN is the other one", "9 1 5", fault(w));
        for (int i = 0; i < 3; i++) {
            w.rub(1, 0);
        }
        w.put(0, 4, 15, 0, 0, 0);
        w.put(1, 0, 14, 1, 1201, 0);
        w.put(2, 0, 16, 0, 0, 0);
        Due.same("assemble() with both", 0, w.assemble());
        Due.same("the first SYMBOL", names[0] + names[1], w.symbol(0));
        Due.same("the second one", names[2] + names[3], w.symbol(1));
    }

    /** NAMES of more than a million signs, put together in unlike ways. */
    private static void namesOutOfStep() {
        for (String part : new String[] {"a", "aab"}) {
            Twopassworks w = Due.source("word " + part + "+" + part);
            int size = part.length();
            for (int i = 0; i < 21; i++) {
                w.rub(0, 5 + size);
                size *= 2;
                if (i < 20) {
                    twice(w);
                }
            }
            callAgain(w, "weak %1", "word %1");
            w.rub(0, 5 + size / 3);
            w.rub(1, 5 + size / 2);
            boolean same = w.text(0).substring(5).equals(w.text(1).substring(5));
            Due.same("assemble()", same ? 0 : 9, w.assemble());
            for (int i = 0; i < 3; i++) {
                w.rub(1, 0);
            }
            w.rub(1, 2 + size / 5);
            w.put(0, 4, 15, 0, 0, 0);
            w.put(1, 0, 14, 1, 1201, 0);
            w.put(2, 0, 16, 0, 0, 0);
            Due.same("assemble() with both weak", 0, w.assemble());
            String[] texts = {w.text(3).substring(5), w.text(4).substring(2)};
            java.util.Arrays.sort(texts);
            Due.same("the first SYMBOL", true, texts[0].equals(w.symbol(0)));
            Due.same("the second one", true, texts[1].equals(w.symbol(1)));
        }
    }

    /** A sign that waits while long arguments are gone through, and faults then. */
    private static void signsThatWait() {
        Twopassworks w = Due.source("m: macro", "word %1%1%1%1y", "end", "m 0+0+0+0+0*", "y: stop");
        Due.same("assemble()", 11, w.assemble());
        Due.same("the last * of the last argument", "11 1 44", fault(w));
        w = Due.source("m: macro", "word y*(%1%1%1%1 0)", "end", "m 0+0+0+0+0*", "y: stop");
        Due.same("assemble()", 11, w.assemble());
        Due.same("the * ahead of them", "11 1 6", fault(w));
        w = Due.source("m: macro", "word 2-y-(%1%1%1%1 0)", "end", "m 0+0+0+0+0*", "y: stop");
        Due.same("assemble()", 11, w.assemble());
        Due.same("the - ahead of y", "11 1 6", fault(w));
        w = Due.source("m: macro", "word 7+(3-(%1%1%1%1 0)+y*2)", "end", "m 0+0+0+0+0*", "y: stop");
        Due.same("assemble()", 11, w.assemble());
        Due.same("the * behind them", "11 1 " + (5 + 6 + 40 + 1 + 3), fault(w));
        w = Due.source("m: macro", "word 65535-(%1%1%1%1 0)*2+1", "end", "m 0+0+0-0+0*", "y: stop");
        Due.same("assemble()", 12, w.assemble());
        Due.same("the last +", "12 1 " + (5 + 7 + 40 + 4), fault(w));
        w = Due.source("m: macro", "word -(%1%1%1y)", "end", "m 0+0+0-0+0+", "y: stop");
        Due.same("assemble()", 11, w.assemble());
        Due.same("the - ahead of all", "11 1 5", fault(w));
        w = Due.source("m: macro", "word (%1 1)*0+(%1 1)*0+(%1 1)*0+(%1 y)", "end", "m 0+0+0+0+0*", "y: stop");
        Due.same("assemble()", 11, w.assemble());
        Due.same("the last * of all", "11 1 " + (5 + 4 * 11 + 3 * 5 - 1), fault(w));
        // arguments that end what others began: each leaves "*(" and "+" waiting once more
        w = Due.source("n: macro", "word 0+1*(0+0%1%1%1%1+y)", "end", "m: macro", "n )*1+1*1*(%1", "end",
            "m 0+0+0+0+0", "y: stop");
        Due.same("assemble()", 11, w.assemble());
        Due.same("the last * ahead of (", "11 1 " + (5 + 8 + 3 * 18 + 7), fault(w));
        w = Due.source("n: macro", "word 0+1*(0+0%2%3%3+y)", "end", "m: macro", "n 0+0,%1,%1+0+0+0+0", "end",
            "m )*1+1*1*(0+0", "y: stop");
        Due.same("assemble()", 11, w.assemble());
        Due.same("the last * ahead of ( again", "11 1 " + (5 + 8 + 12 + 20 + 7), fault(w));
        w = Due.source("m: macro", "word %1%1%1%1-7", "end", "m 0+0+0+0+3*", "y: stop");
        Due.same("assemble() with - behind a sign", 0, w.assemble());
        Due.same("number with it", -21, w.ofFlat(0, 10));
        w = Due.source("m: macro", "word %1%1%1%1-7", "end", "m 0+0+0+0+1*", "y: stop");
        Due.same("assemble()", 0, w.assemble());
        Due.same("the number with -7 behind", -7, w.ofFlat(0, 10));
        w = Due.source("m: macro", "word %1%1%1%1%1 7", "end", "m (1+1)*(0-1)*", "y: stop");
        Due.same("assemble()", 0, w.assemble());
        Due.same("its number", -224, w.ofFlat(0, 10));
        w = Due.source("m: macro", "word %1%1%1%1%1 y", "end", "m (y-y)*3+0+0-0+", "y: stop");
        Due.same("assemble()", 0, w.assemble());
        Due.same("its BASE", 0, w.ofFlat(0, 11));
    }

    private static void endlessValues() {
        // each goes on far beyond what could be gone through TOKEN by TOKEN
        String[] terms = {"1*-1", "a-b", "(a-b*3/2)", "1-1+c", "y-y"};
        int[] codes = {12, 0, 0, 0, 0};
        for (int i = 0; i < terms.length; i++) {
            Twopassworks w = Due.source("word " + terms[i], "a: let 3", "b: let " + (i == 2 ? 2 : 3), "weak c",
                "y: stop");
            for (int time = 0; time < 40; time++) {
                twice(w);
            }
            Due.same("assemble() of " + terms[i] + " again and again", codes[i], w.assemble());
            Due.same("isSound()", true, w.isSound());
            if (i > 0) {
                Due.same("number", 0, w.ofFlat(0, 10));
                Due.same("byte", 0, w.byteAt(0));
            }
            Due.same("a sign far behind", (int) ("+" + terms[i]).charAt((1 << 30) % (terms[i].length() + 1)),
                w.signAt(0, 4 + (1 << 30)));
            Due.same("tidy()", 0, w.tidy());
            Due.same("digest() twice", w.digest(), w.digest());
        }
    }
}
