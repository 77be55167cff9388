import java.math.BigInteger;

/** What each promise returns in its boundary cases: empty, full, none of what is asked for, nothing to change. */
public final class ReturnsTest {
    public static void main(String[] args) {
        newObject();
        put();
        remarkSignRub();
        cutAndMove();
        clear();
        tidy();
        flatten();
        assemble();
        knock();
        linesAndTexts();
        token();
        tokens();
        fault();
        ofFlat();
        row();
        image();
        byteAt();
        part();
        ofSymbol();
        jumps();
        trial();
        value();
        digest();
        Due.end();
    }

    private static String faultOf(Twopassworks w) {
        return w.fault(0) + " " + w.fault(1) + " " + w.fault(2);
    }

    private static String texts(Twopassworks w) {
        StringBuilder all = new StringBuilder();
        for (int i = 0; i < w.lines(); i++) {
            all.append(i > 0 ? "|" : "").append(w.text(i));
        }
        return all.toString();
    }

    /** Promise 1: "an assembler with an empty source". */
    private static void newObject() {
        Twopassworks w = new Twopassworks();
        Due.same("lines()", 0, w.lines());
        Due.same("FAULT", "0 -1 0", faultOf(w));
        Due.same("isSound()", true, w.isSound());
        Due.tooEarly("flatLines()", () -> w.flatLines());
        Due.same("clear()", 0, w.clear());
        Due.same("tidy()", 0, w.tidy());
        Due.same("flatten()", 0, w.flatten());
        Due.tooEarly("flatLines() behind flatten()", () -> w.flatLines());
        Due.same("knock()", 1, w.knock());
        Due.same("assemble()", 0, w.assemble());
        Due.same("flatLines() behind assemble()", 0, w.flatLines());
        Twopassworks other = new Twopassworks();
        Due.same("another one has its own lines", 1, w.put(0, 0, 7, 0, 0, 0) + other.lines());
        Due.tooEarly("another one has no IMAGE", () -> other.flatLines());
    }

    /** Promise 2: "those from there on go one further"; returns how many lines there are then. */
    private static void put() {
        Twopassworks w = new Twopassworks();
        Due.same("first", 1, w.put(0, 0, 0, 1, 1, 0));
        Due.same("at the end", 2, w.put(1, 0, 0, 1, 3, 0));
        Due.same("between", 3, w.put(1, 0, 0, 1, 2, 0));
        Due.same("at the front", 4, w.put(0, 0, 0, 0, 0, 0));
        Due.same("texts", "|1|2|3", texts(w));
        Due.same("an empty text", 0, w.length(0));
    }

    /** Promises 3 to 5: how long the text is then, and the code. */
    private static void remarkSignRub() {
        Twopassworks w = Due.source("", "~");
        Due.same("remark behind nothing", 4, w.remark(0, 0));
        Due.same("its text", " ;r0", w.text(0));
        Due.same("rub at the front", 32, w.rub(0, 0));
        Due.same("rub at the end", (int) '0', w.rub(0, 2));
        Due.same("text", ";r", w.text(0));
        Due.same("sign at the front", 3, w.sign(0, 0, 32));
        Due.same("sign at the end", 4, w.sign(0, 3, 126));
        Due.same("text", " ;r~", w.text(0));
        Due.same("rub the only one", 126, w.rub(1, 0));
        Due.same("text", "", w.text(1));
        Due.outside("rub none", () -> w.rub(1, 0));
        Due.same("sign into nothing", 1, w.sign(1, 0, 33));
    }

    /** Promises 6 and 7. */
    private static void cutAndMove() {
        Twopassworks w = Due.source("a", "b", "c");
        Due.same("move nowhere", 0, w.move(1, 1));
        Due.same("texts", "a|b|c", texts(w));
        Due.same("move to the end", 2, w.move(0, 2));
        Due.same("texts", "b|c|a", texts(w));
        Due.same("move to the front", 2, w.move(2, 0));
        Due.same("texts", "a|b|c", texts(w));
        Due.same("move by one", 1, w.move(1, 2));
        Due.same("texts", "a|c|b", texts(w));
        Due.same("cut the last", 2, w.cut(2));
        Due.same("cut the first", 1, w.cut(0));
        Due.same("texts", "c", texts(w));
        Due.same("move the only one", 0, w.move(0, 0));
        Due.same("cut the only one", 0, w.cut(0));
        Due.outside("cut none", () -> w.cut(0));
        Due.outside("move none", () -> w.move(0, 0));
    }

    /** Promise 8: the SOURCE alone is emptied. */
    private static void clear() {
        Twopassworks w = Due.source("byte 7", "foo");
        Due.same("assemble", 4, w.assemble());
        Due.same("clear", 2, w.clear());
        Due.same("FAULT stays", "4 1 0", faultOf(w));
        w = Due.assembled("byte 7");
        Due.same("clear", 1, w.clear());
        Due.same("the IMAGE stays", 7, w.byteAt(0));
        Due.same("clear again", 0, w.clear());
        Due.same("put then", 1, w.put(0, 0, 0, 0, 0, 0));
        Due.same("an empty text", "", w.text(0));
    }

    /** Promise 9: "how many texts that changed". */
    private static void tidy() {
        Twopassworks w = Due.source("", " ", "stop", "stop ", "A", " A ", ";", "; ", "a:byte 1", "$1", "01", "65536 ");
        Due.same("tidy", 6, w.tidy());
        Due.same("texts", "||stop|stop|A| A |;|;|a: byte 1|1|1|65536 ", texts(w));
        Due.same("tidy again", 0, w.tidy());
        Twopassworks all = Due.source("a ", "b ");
        Due.same("all of them", 2, all.tidy());
        Due.same("FAULT stays", "0 -1 0", faultOf(all));
    }

    /** Promise 10: the SOURCE becomes the FORMS of its FLAT lines, "if section 3 brings no fault". */
    private static void flatten() {
        Twopassworks w = Due.source("m: macro", "stop", "end");
        Due.same("to nothing", 0, w.flatten());
        Due.same("lines()", 0, w.lines());
        Due.same("nothing", 0, w.flatten());
        w = Due.source("repeat 5", "repeat 4", "stop", "@a:", "jump @a ; r", "byte $ff", "weak x", "byte 1 , 2", "end",
            "end");
        Due.same("to 120 lines", 0, w.flatten());
        Due.same("lines()", 120, w.lines());
        Due.same("one of them", "jump a_1", w.text(2));
        Due.same("another one", "byte 255", w.text(3));
        Due.same("the last", "byte 1, 2", w.text(119));
        Due.same("once more", 0, w.flatten());
        Due.same("lines()", 120, w.lines());
        w = Due.source("stop", "byte 256", "word x", "a:", "a:");
        Due.same("sections 4 to 7 are not looked at", 0, w.flatten());
        Due.same("FAULT", "0 -1 0", faultOf(w));
        w = Due.source("stop ;r", "end");
        Due.same("with a fault", 5, w.flatten());
        Due.same("FAULT", "5 1 0", faultOf(w));
        Due.same("the SOURCE stays", "stop ;r|end", texts(w));
        w.cut(1);
        Due.same("without it", 0, w.flatten());
        Due.same("FAULT", "0 -1 0", faultOf(w));
        Due.same("the SOURCE", "stop", texts(w));
        w = Due.source("repeat 5", "repeat 5", "stop", "stop", "stop", "stop", "stop", "end", "end");
        Due.same("above 120", 7, w.flatten());
        Due.same("lines()", 9, w.lines());
        Due.same("FAULT", "7 2 0", faultOf(w));
    }

    /** Promise 11: "FAULT becomes what that brought (0, NONE, 0 without)". */
    private static void assemble() {
        Twopassworks w = Due.source("stop", "foo");
        Due.same("with a fault", 4, w.assemble());
        Due.same("FAULT", "4 1 0", faultOf(w));
        Due.tooEarly("no IMAGE", () -> w.flatLines());
        w.cut(1);
        Due.same("FAULT stays till then", "4 1 0", faultOf(w));
        Due.same("without", 0, w.assemble());
        Due.same("FAULT", "0 -1 0", faultOf(w));
        Due.same("the SOURCE stays", "stop", texts(w));
    }

    /** Promise 12: "how many were refused ever by this assembler, with this one". */
    private static void knock() {
        Twopassworks w = Due.source("stop");
        String before = State.of(w);
        for (int i = 1; i <= 5; i++) {
            Due.same("knock", i, w.knock());
        }
        Due.same("nothing else", before, State.of(w));
        w.clear();
        w.assemble();
        Due.same("ever", 6, w.knock());
    }

    /** Promises 13 to 17. */
    private static void linesAndTexts() {
        Twopassworks w = Due.source("", "~ ", "a".repeat(80));
        w.put(3, 0, 0, 0, 0, 0);
        Due.same("lines()", 4, w.lines());
        int[] lengths = {0, 2, 80, 0};
        for (int i = 0; i < 4; i++) {
            Due.same("length " + i, lengths[i], w.length(i));
            Due.same("text " + i, lengths[i], w.text(i).length());
        }
        Due.same("the first sign", (int) '~', w.signAt(1, 0));
        Due.same("the last sign", 32, w.signAt(1, 1));
        Due.same("the last sign of 80", (int) 'a', w.signAt(2, 79));
        Due.same("FORM of nothing", "", w.form(0));
        Due.same("FORM of an ILL line", "~ ", w.form(1));
        Due.same("FORM of 80 signs", "a".repeat(80), w.form(2));
        Due.same("the text stays", "~ ", w.text(1));
    }

    /** Promise 18: each kind, and 0 where there is nothing to tell. */
    private static void token() {
        Twopassworks w = Due.source("a @b%3 65535 $0 ;", ".;x");
        int[][] due = {{1, 0, 1, 0}, {2, 2, 2, 0}, {3, 5, 2, 0}, {4, 8, 5, 65535}, {4, 14, 1, 0}, {6, 16, 1, 0}};
        Due.same("TOKENS", due.length, w.tokens(0));
        for (int place = 0; place < due.length; place++) {
            for (int what = 0; what < 4; what++) {
                Due.same("TOKEN " + place + " " + what, due[place][what], w.token(0, place, what));
            }
        }
        int[][] second = {{5, 0, 1, 46}, {6, 2, 3, 0}};
        for (int place = 0; place < second.length; place++) {
            for (int what = 0; what < 4; what++) {
                Due.same("TOKEN " + place + " of '.' " + what, second[place][what], w.token(1, place, what));
            }
        }
    }

    /** Promise 19: "how many TOKENS it has; if it is ILL, minus the code of the fault". */
    private static void tokens() {
        Twopassworks w = Due.source("", " ", ";", "a", "!", "65536", "(".repeat(80));
        int[] due = {0, 0, 1, 1, -1, -2, 80};
        for (int i = 0; i < due.length; i++) {
            Due.same("tokens " + i, due[i], w.tokens(i));
        }
    }

    /** Promise 20: "0, NONE, 0 at first"; SPACE has the line NONE. */
    private static void fault() {
        Twopassworks w = Due.source("part 1", "from 0", "stop", "part 0", "stop");
        Due.same("at first", "0 -1 0", faultOf(w));
        Due.same("SPACE", 15, w.assemble());
        Due.same("FAULT", "15 -1 1", faultOf(w));
        w.clear();
        w.tidy();
        w.knock();
        Due.same("FAULT stays", "15 -1 1", faultOf(w));
        Due.same("flatten", 0, w.flatten());
        Due.same("FAULT", "0 -1 0", faultOf(w));
        String[] all = {"!", "70000", "5", "foo", "end", "word ((((1))))"};
        int[] codes = {1, 2, 3, 4, 5, 6};
        for (int i = 0; i < all.length; i++) {
            w.clear();
            Due.line(w, 0, "");
            Due.line(w, 1, all[i]);
            Due.same("assemble " + all[i], codes[i], w.assemble());
            Due.same("line of " + all[i], 1, w.fault(1));
            Due.same("flatten " + all[i], codes[i], w.flatten());
        }
    }

    private static void flatAs(Twopassworks w, int at, int... due) {
        for (int what = 0; what < due.length; what++) {
            Due.same("ofFlat " + at + " " + what, due[what], w.ofFlat(at, what));
        }
    }

    /** Promise 23: "0 and NONE without one, and where it had to be KNOWN". */
    private static void ofFlat() {
        Twopassworks w = Due.assembled("from 20", "m: macro", "b: jump b", "end", "a: m", "part 3-2", "room 2+3",
            "align 8 ; r", "share a", "want v", "weak v", "stop", "c: let a+9", "byte 7,a-a", "jump v+1", "load =c",
            "word a,5");
        // line, EXPANSION, word, PART, OFFSET, SIZE, ADDRESS, SHORT or LONG, SHORTABLE, TOKENS, number, BASE
        flatAs(w, 0, 0, 0, 10, 0, 0, 0, 20, 0, 0, 2, 0, -1);
        flatAs(w, 1, 4, 0, 0, 0, 0, 0, 20, 0, 0, 2, 0, -1);
        flatAs(w, 2, 2, 1, 4, 0, 0, 2, 20, 1, 1, 4, 0, 0);
        flatAs(w, 3, 5, 0, 9, 1, 0, 0, 24, 0, 0, 4, 0, -1);
        flatAs(w, 4, 6, 0, 3, 1, 0, 5, 24, 0, 0, 4, 0, -1);
        flatAs(w, 5, 7, 0, 11, 1, 5, 0, 29, 0, 0, 2, 0, -1);
        flatAs(w, 6, 8, 0, 12, 1, 5, 0, 29, 0, 0, 2, 0, -1);
        flatAs(w, 7, 9, 0, 13, 1, 5, 0, 29, 0, 0, 2, 0, -1);
        flatAs(w, 8, 10, 0, 14, 1, 5, 0, 29, 0, 0, 2, 0, -1);
        flatAs(w, 9, 11, 0, 7, 1, 5, 1, 29, 0, 0, 1, 0, -1);
        flatAs(w, 10, 12, 0, 8, 1, 6, 0, 30, 0, 0, 6, 9, 0);
        flatAs(w, 11, 13, 0, 1, 1, 6, 2, 30, 0, 0, 6, 7, -1);
        flatAs(w, 12, 14, 0, 4, 1, 8, 3, 32, 2, 0, 4, 1, 13);
        flatAs(w, 13, 15, 0, 6, 1, 11, 3, 35, 0, 0, 3, 9, 0);
        flatAs(w, 14, 16, 0, 2, 1, 14, 4, 38, 0, 0, 4, 0, 0);
        Due.outside("one more", () -> w.ofFlat(15, 0));
    }

    /** Promise 24: "its first 4 bytes at most with two digits each .. and then "+" if there are more". */
    private static void row() {
        Twopassworks w = Due.assembled("a:", "stop", "byte 15,16", "byte 1,2,255", "word $f0f,$abcd", "room 5",
            "part 1", "from 255", "stop", "stop", "word 1,2,3 ; r", "part 2", "from 500", "b: let 1");
        String[] due = {"0000   a:", "0000 00  stop", "0001 0f10  byte 15, 16", "0003 0102ff  byte 1, 2, 255",
            "0006 0f0fcdab  word 3855, 43981", "000a 00000000+  room 5", "00ff   part 1", "00ff   from 255",
            "00ff 00  stop", "0100 00  stop", "0101 01000200+  word 1, 2, 3", "01f4   part 2", "01f4   from 500",
            "01f4   b: let 1"};
        Due.same("FLAT lines", due.length, w.flatLines());
        for (int i = 0; i < due.length; i++) {
            Due.same("row " + i, due[i], w.row(i));
            Due.same("flat " + i, due[i].substring(due[i].indexOf("  ") + 2).trim(), w.flat(i));
        }
    }

    private static void imageAs(Twopassworks w, int... due) {
        for (int what = 0; what < due.length; what++) {
            Due.same("image(" + what + ")", due[what], w.image(what));
        }
    }

    /** Promise 25: 0 without any of it. */
    private static void image() {
        imageAs(Due.assembled(), 0, 0, 0, 0, 0, 0, 0, 0, 0, 0);
        imageAs(Due.assembled("from 9", "a:"), 0, 0, 0, 0, 0, 1, 0, 0, 0, 1);
        imageAs(Due.assembled("m: macro", "end", "m", "m", "n: macro", "end", "if 1", "end"),
            0, 0, 0, 0, 0, 0, 0, 2, 2, 0);
        imageAs(Due.assembled("from 9", "a: load =a", "part 1", "from 20", "load =5", "part 0", "stop"),
            9, 25, 11, 5, 3, 1, 2, 0, 0, 3);
    }

    /** Promise 26: "NONE without one". */
    private static void byteAt() {
        Twopassworks w = Due.assembled("from 3", "byte 0,255", "part 1", "from 10", "stop");
        int[] due = {-1, -1, -1, 0, 255, -1, -1, -1, -1, -1, 0, -1};
        for (int i = 0; i < due.length; i++) {
            Due.same("byteAt(" + i + ")", due[i], w.byteAt(i));
        }
        Due.same("byteAt(65535)", -1, w.byteAt(65535));
        Due.illegal("byteAt(65536)", () -> w.byteAt(65536));
        Due.same("of nothing", -1, Due.assembled().byteAt(0));
    }

    /** Promise 27: "4 ORIGIN (NONE without)". */
    private static void part() {
        Twopassworks w = Due.assembled("from 0", "load =1", "load =1", "part 3", "align 16", "stop");
        int[][] due = {{0, 8, 6, 1, 0, 1}, {8, 0, 0, 1, -1, 0}, {8, 0, 0, 1, -1, 0}, {16, 1, 1, 16, -1, 0}};
        for (int part = 0; part < 4; part++) {
            for (int what = 0; what < 6; what++) {
                Due.same("part(" + part + ", " + what + ")", due[part][what], w.part(part, what));
            }
        }
    }

    /** Promises 28 to 30: each kind, with and without marks. */
    private static void ofSymbol() {
        Twopassworks w = Due.assembled("weak d", "weak d", "a: stop", "b: let a", "want c", "share a", "weak a",
            "weak c", "part 1", "e:", "share b");
        int[][] due = {
            // kind, number, BASE, FLAT line, how many USE it, share, weak
            {1, 0, 0, 2, 3, 1, 1}, {2, 0, 0, 3, 1, 1, 0}, {3, 0, 12, 4, 2, 0, 1}, {4, 0, -1, 0, 2, 0, 1},
            {1, 0, 1, 9, 0, 0, 0}};
        Due.same("SYMBOLS", due.length, w.image(5));
        for (int at = 0; at < due.length; at++) {
            Due.same("symbol(" + at + ")", (char) ('a' + at), w.symbol(at));
            for (int what = 0; what < 7; what++) {
                Due.same("ofSymbol(" + at + ", " + what + ")", due[at][what], w.ofSymbol(at, what));
            }
        }
        Due.same("use 0 of d", 0, w.use(3, 0));
        Due.same("use 1 of d", 1, w.use(3, 1));
        Due.outside("use 2 of d", () -> w.use(3, 2));
        Due.outside("use 0 of e", () -> w.use(4, 0));
    }

    /** Promises 34 and 35: 0 without jumps, but one PASS. */
    private static void jumps() {
        int[] none = {0, 0, 0, 1, 0};
        for (int what = 0; what < 5; what++) {
            Due.same("jumps(" + what + ") of nothing", none[what], Due.assembled().jumps(what));
        }
        Twopassworks w = Due.assembled("a: jump b", "jump 5", "room 12", "jump a", "jump a", "b:");
        int[] some = {4, 3, 4, 2, 4};
        for (int what = 0; what < 5; what++) {
            Due.same("jumps(" + what + ")", some[what], w.jumps(what));
        }
        Due.same("reach as if the first alone were SHORT", 21, w.reach(0));
        Due.same("reach as if the third alone were SHORT", -20, w.reach(3));
        Due.same("reach as if the last alone were SHORT", -23, w.reach(4));
    }

    /** Promise 38: how many DIFFER; "if the first of both has a fault, minus its code; otherwise, .. minus that". */
    private static void trial() {
        Twopassworks w = Due.source("byte 1,2");
        Due.same("the same", 0, w.trial(0, 0, 1, 2, 1, 2));
        Due.same("another byte", 1, w.trial(0, 0, 1, 2, 1, 3));
        Due.same("one less", 1, w.trial(0, 0, 1, 1, 1, 0));
        Due.same("one more", 2, w.trial(0, 0, 2, 2, 513, 0));
        Due.same("nothing", 2, w.trial(0, 0, 0, 0, 0, 0));
        Due.same("it with a fault", -4, w.trial(0, 0, 101, 0, 0, 0));
        Due.same("FAULT stays", "0 -1 0", faultOf(w));
        Due.same("the SOURCE stays", "byte 1,2", texts(w));
        Due.tooEarly("no IMAGE", () -> w.flatLines());
        w.put(1, 0, 16, 0, 0, 0);
        Due.same("the SOURCE with a fault", -5, w.trial(1, 0, 7, 0, 0, 0));
        Due.same("both with a fault", -5, w.trial(0, 0, 101, 0, 0, 0));
        w.cut(1);
        w.remark(0, 5);
        Due.same("without the REMARK", 0, w.trial(0, 0, 1, 2, 1, 2));
        Due.same("the greatest numbers of all", -4, w.trial(0, 52, 126, 10, 2255, 2255));
        Due.same("by the SOURCE, not the IMAGE", 0, Due.source("stop").trial(0, 0, 7, 0, 0, 0));
    }

    private static void valueAs(Twopassworks w, String due, int shape, int x, int y) {
        Due.same("value(" + shape + ", " + x + ", " + y + ")", due,
            w.value(shape, x, y, 0) + " " + w.value(shape, x, y, 1) + " " + w.value(shape, x, y, 2));
    }

    /** Promise 39: "with a fault number 0 and BASE NONE"; "A PARAMETER is the fault ARGUMENT, ahead of all else". */
    private static void value() {
        Twopassworks w = Due.assembled("stop", "a: stop", "b: let -65535", "c: let 65535", "want v", "weak w", "part 3",
            "@a: room 40");
        valueAs(w, "0 1 0", 1, 1000, 0);
        valueAs(w, "0 0 3", 1, 1100, 0);
        valueAs(w, "0 -65535 -1", 1, 1001, 0);
        valueAs(w, "0 65535 -1", 8, 1001, 0);
        valueAs(w, "0 -65535 -1", 8, 1002, 0);
        valueAs(w, "0 0 14", 1, 1021, 0);
        valueAs(w, "0 0 -1", 1, 1022, 0);
        valueAs(w, "9 0 -1", 1, 1023, 0);
        valueAs(w, "9 0 -1", 1, 1101, 0);
        valueAs(w, "10 0 -1", 1, 1300, 0);
        valueAs(w, "16 0 -1", 1, 1201, 0);
        valueAs(w, "0 0 -1", 1, 2000, 0);
        valueAs(w, "0 255 -1", 1, 2255, 0);
        valueAs(w, "0 0 -1", 1, 0, 0);
        valueAs(w, "0 999 -1", 1, 999, 0);
        valueAs(w, "0 5 -1", 1, 5, 1201);
        valueAs(w, "0 -5 -1", 8, 5, 1203);
        valueAs(w, "16 0 -1", 3, 1023, 1201);
        valueAs(w, "16 0 -1", 4, 1203, 1300);
        valueAs(w, "9 0 -1", 3, 1023, 1300);
        valueAs(w, "10 0 -1", 5, 1300, 1023);
        valueAs(w, "0 65535 -1", 3, 1002, 0);
        valueAs(w, "12 0 -1", 3, 1002, 1);
        valueAs(w, "0 -65535 -1", 4, 1001, 0);
        valueAs(w, "12 0 -1", 4, 1001, 1);
        valueAs(w, "0 0 -1", 3, 1001, 1002);
        valueAs(w, "12 0 -1", 5, 1002, 2);
        valueAs(w, "0 65535 -1", 6, 1002, 1);
        valueAs(w, "0 -1 -1", 6, 1002, 1001);
        valueAs(w, "0 -65 -1", 6, 1001, 999);
        valueAs(w, "13 0 -1", 6, 1002, 0);
        valueAs(w, "11 0 -1", 6, 1000, 0);
        valueAs(w, "0 3996 -1", 7, 999, 999);
        valueAs(w, "12 0 -1", 7, 1002, 0);
        valueAs(w, "11 0 -1", 7, 1000, 1);
        valueAs(w, "11 0 -1", 8, 1000, 0);
        valueAs(w, "0 256 0", 3, 1000, 2255);
        valueAs(w, "11 0 -1", 3, 1000, 1100);
        valueAs(w, "11 0 -1", 4, 1000, 1100);
        valueAs(w, "0 0 -1", 4, 1100, 1100);
        valueAs(Due.assembled(), "9 0 -1", 1, 1000, 0);
        valueAs(Due.assembled(), "0 7 -1", 1, 7, 0);
    }

    private static void digestOf(String what, Twopassworks w, boolean wraps) {
        BigInteger all = Digest.unbounded(w);
        Due.same("whether the checksum wraps around " + what, wraps, all.bitLength() > 63);
        Due.same("digest() " + what, all.longValue(), w.digest());
    }

    /** Promise 41: "wraps around as a 64-bit integer"; without an IMAGE, of an empty SOURCE, with ILL lines. */
    private static void digest() {
        Twopassworks w = new Twopassworks();
        Due.same("digest at first", 5680911032291L, w.digest());
        digestOf("at first", w, false);
        w.put(0, 0, 0, 0, 0, 0);
        digestOf("of an empty text", w, false);
        w.put(0, 0, 0, 1, 1, 0);
        w.put(0, 0, 0, 1, 1, 0);
        digestOf("of three lines", w, true);
        w.clear();
        w.assemble();
        digestOf("of an empty IMAGE", w, true);
        Due.line(w, 0, "!65536 ;");
        w.assemble();
        digestOf("with a fault", w, true);
        w.clear();
        Due.line(w, 0, "a: word -32768,a ;r");
        w.assemble();
        digestOf("with an IMAGE", w, true);
        w.assemble();
        digestOf("with an OLD IMAGE", w, true);
    }
}
