/** Promises 10, 11, 20 to 23: section 3, from source to FLAT lines, and its faults in their order. */
public final class FlatTest {
    private static final String[] WITHOUT_LABEL =
        {"part 0", "from 0", "align 1", "share a", "want b", "weak b", "end", "repeat 1", "if 1", "else"};

    public static void main(String[] args) {
        rows();
        labels();
        operands();
        nested();
        known();
        ranges();
        blocks();
        macros();
        repeats();
        conditions();
        deep();
        tooLong();
        flatten();
        wordsAsNames();
        Due.end();
    }

    private static void fault(String due, String... texts) {
        Due.same("fault of " + String.join("|", texts), due, Due.faultOf(texts));
    }

    private static void flat(String due, String... texts) {
        Due.same("FLAT lines of " + String.join("|", texts), due, Due.flatOf(texts));
    }

    private static void rows() {
        flat("a:|stop", "a:", ";x", "", "stop ; y");
        flat("x_0:|jump x_0", "@x:", "jump @x");
        fault("3 0 0", "5");
        fault("3 0 0", ": stop");
        fault("3 0 3", "a: 5");
        fault("3 0 3", "a: : b");
        fault("4 0 0", "foo");
        fault("4 0 3", "a: foo");
        fault("4 0 5", "@x: foo");
        fault("4 0 0", "@x stop");
        fault("16 0 5", "byte %1");
        fault("16 0 0", "%2: %1");
        fault("16 0 4", "foo %1");
        fault("16 0 8", "foo @x+%1");
        fault("3 1 5", "stop", "stop 1 ; $1");
    }

    private static void labels() {
        flat("a: byte 1|b: word 1|c: room 1|d: jump a|e: call a|f: load 1|g: stop|h: let 1",
            "a: byte 1", "b: word 1", "c: room 1", "d: jump a", "e: call a", "f: load 1", "g: stop", "h: let 1");
        for (String text : WITHOUT_LABEL) {
            fault("3 0 0", "a: " + text);
            fault("3 0 0", "a: " + text + " ,");
        }
        fault("3 0 0", "let 5");
        fault("3 0 0", "macro");
        fault("3 0 0", "let ,");
        fault("3 0 0", "macro 5", "end");
        flat("if: stop|jump if", "if: stop", "jump if");
        flat("byte: let 1|byte byte", "byte: let 1", "byte byte");
    }

    private static void operands() {
        fault("3 0 4", "byte");
        fault("3 0 7", "byte 1,");
        fault("3 0 5", "byte ,");
        fault("3 0 8", "byte 1,,");
        fault("3 0 12", "byte 1,2,3,4");
        fault("3 0 7", "word 1 2");
        fault("3 0 6", "word 1)");
        fault("3 0 7", "word (1");
        fault("3 0 7", "word (1,2)");
        fault("3 0 6", "word ()");
        fault("3 0 7", "word 1+");
        fault("3 0 7", "word 1+*2");
        fault("3 0 5", "word +1");
        fault("3 0 5", "word =1");
        fault("3 0 6", "room 1,2");
        fault("3 0 4", "jump");
        fault("3 0 6", "jump 1=");
        fault("3 0 6", "load =");
        fault("3 0 6", "load ==1");
        fault("3 0 7", "load =1,2");
        fault("3 0 6", "load 1=");
        fault("3 0 6", "a: let");
        fault("3 0 5", "stop 1");
        fault("3 0 9", "a: macro x", "end");
        fault("3 2 4", "repeat 1", "stop;", "if 1,", "end", "end");
    }

    private static void nested() {
        flat("word (((1)))|word ---1|word (-(1))", "word (((1)))", "word - - - 1", "word (-(1))");
        fault("6 0 8", "word -(-(1))");
        fault("6 0 8", "word ((((1))))");
        fault("6 0 8", "word ----1");
        fault("6 0 8", "word (-(-1))");
        fault("3 0 6", "word ()((((1");
        fault("6 0 8", "word ((((");
        flat("word (((1)))+(((2)))--3", "word (((1)))+(((2)))--3");
        fault("6 0 11", "word 1,((((3))))");
    }

    private static void known() {
        flat("a: let 2|room a|room a*a", "a: let 2", "room a", "room a*a");
        fault("10 0 5", "room a", "a: let 2");
        fault("10 0 5", "room .");
        fault("10 0 5", "room a+b");
        fault("13 0 6", "room 1/0+a");
        fault("10 0 5", "room a/0");
        fault("12 0 10", "room 65535+1");
        fault("10 1 5", "a: let .", "room a");
        fault("10 1 5", "a: let b", "room a", "b: let 1");
        fault("10 2 5", "a: let b", "b: let 1", "room a");
        fault("10 1 5", "a: let 1/0", "room a");
        fault("10 2 5", "a: let b", "a: let 1", "room a");
        fault("8 1 0", "a: let 1", "a: let b", "room a");
        flat("x_0: let 1|room x_0", "@x: let 1", "room @x");
        flat("a: let 1|b: let a+1|if_1:", "a: let 1", "b: let a+1", "if b-2", "else", "if_1:", "end");
    }

    private static void ranges() {
        fault("12 0 5", "room 41");
        fault("12 0 5", "room -1");
        fault("12 0 5", "part 4");
        fault("12 0 5", "from 501");
        fault("12 0 7", "repeat 6", "end");
        for (int i = 0; i <= 17; i++) {
            boolean right = i == 1 || i == 2 || i == 4 || i == 8 || i == 16;
            fault(right ? "0 -1 0" : "12 0 6", "align " + i);
        }
        fault("0 -1 0", "room 40", "room 0", "part 3", "part 0", "from 500", "from 0", "repeat 5", "end");
        fault("3 0 8", "room 41 1");
        fault("12 0 5", "room 2*(41)");
    }

    private static void blocks() {
        fault("5 0 0", "end");
        fault("5 0 0", "else");
        fault("3 0 4", "end 1");
        fault("5 0 0", "if 1");
        fault("5 0 0", "repeat 1", "if 1", "end");
        fault("5 0 3", "m: macro", "if 1", "end");
        fault("12 0 7", "repeat 6");
        fault("10 0 3", "if a");
        fault("5 0 0", "repeat 1", "if 1", "end ; of if");
        fault("5 1 0", "repeat 1", "else", "end");
        fault("5 3 0", "if 0", "else", "stop", "else", "end");
        flat("", "if 1", "else", "stop", "else", "end");
        flat("stop", "if 1", "stop", "else", "else", "end");
        flat("", "if 0", "a: end 5 5");
        flat("stop", "if 0", "m: macro", "end", "else", "stop", "end");
    }

    private static void macros() {
        flat("byte 1|byte 2", "m: macro", "byte %1", "end", "m 1", "m 2");
        flat("word 1+2|word (3)-4*5", "m: macro", "word %1", "end", "m 1+2", "m (3)-4*5");
        flat("a:|byte 5", "m: macro", "byte 5", "end", "a: m");
        flat("x_1: jump x_1|x_2: jump x_2", "m: macro", "@x: jump @x", "end", "m", "m");
        flat("x_0:|jump x_0", "m: macro", "jump %1", "end", "@x:", "m @x");
        flat("b: byte (1)", "m: macro", "%1: %2 %3", "end", "m b,byte,(1)");
        fault("4 0 0", "m", "m: macro", "end");
        fault("8 2 0", "m: macro", "end", "m: macro", "end");
        fault("5 1 3", "m: macro", "n: macro", "end", "end");
        fault("5 1 4", "m: macro", "@n: macro", "end", "end");
        fault("8 2 0", "m: macro", "end", "m: macro", "n: macro", "end", "end");
        fault("5 2 3", "m: macro", "end", "m: macro", "n: macro", "end");
        fault("3 2 2", "m: macro", "end", "m ,1");
        fault("3 2 4", "m: macro", "end", "m 1,");
        fault("3 2 5", "m: macro", "end", "m 1,,2");
        fault("3 2 11", "m: macro", "end", "m 1,2,3,4");
        fault("3 2 10", "m: macro", "end", "m 1,2,3,");
        fault("3 2 2", "m: macro", "end", "m , ;r");
        fault("16 2 5", "m: macro", "stop", "byte %2", "end", "m 1");
        fault("16 1 3", "m: macro", "if %1", "end", "end", "m");
        fault("16 1 3", "m: macro", "@x %1", "end", "m");
        fault("16 0 5", "byte %1");
        fault("4 1 0", "m: macro", "foo 1", "end", "m");
        fault("3 2 4", "m: macro", "end", "end 1", "stop");
        flat("byte 7", "byte: macro", "stop", "end", "byte 7");
        flat("n_1: stop|word n_1", "m: macro", "@n: stop", "word %1", "end", "m n_1");
        fault("5 1 3", "m: macro", "a: %1", "end", "m macro");
    }

    private static void repeats() {
        flat("stop|stop|stop", "repeat 3", "stop", "end");
        flat("", "repeat 0", "foo", "end");
        flat("x_1: jump x_1|x_2: jump x_2", "repeat 2", "@x: jump @x", "end");
        Twopassworks w = Due.assembled("m: macro", "byte 1", "end", "repeat 2", "m", "end", "m", "if 1", "stop", "end");
        Due.same("EXPANSIONS", 5, w.image(7));
        Due.same("macros", 1, w.image(8));
        int[] expansions = {2, 4, 5, 0};
        int[] lines = {1, 1, 1, 8};
        for (int i = 0; i < 4; i++) {
            Due.same("EXPANSION of " + i, expansions[i], w.ofFlat(i, 1));
            Due.same("line of " + i, lines[i], w.ofFlat(i, 0));
        }
        flat("word x_1|word x_1|word x_4|word x_4|x_1:|x_4:",
            "repeat 2", "repeat 2", "word @x", "end", "end", "x_1:", "x_4:");
        fault("8 1 0", "repeat 2", "m: macro", "end", "end");
        flat("m_1:|stop", "repeat 1", "@m: macro", "stop", "end", "m_1:", "m_1", "end");
        fault("16 1 5", "repeat 1", "byte %1", "end");
        fault("16 4 5", "m: macro", "end", "m 5", "repeat 1", "byte %1", "end");
        fault("4 1 0", "repeat 1", "foo", "byte %1", "end");
        Due.same("no EXPANSION of repeat 0", 0, Due.assembled("repeat 0", "end").image(7));
        Due.same("EXPANSIONS without rows", 5, Due.assembled("repeat 5", "end").image(7));
    }

    private static void conditions() {
        flat("stop", "if 1", "stop", "end");
        flat("", "if 0", "foo", "end");
        flat("byte 1", "if -3", "byte 1", "else", "byte 2", "end");
        flat("byte 2", "if 0", "byte 1", "else", "byte 2", "end");
        flat("byte 2", "if 0", "if 1", "else", "end", "else", "byte 2", "end");
        flat("x_0:", "if 1", "@x:", "end");
        fault("5 2 0", "if 0", "else", "else", "end");
    }

    private static void deep() {
        flat("stop", "if 1", "if 1", "if 1", "if 1", "stop", "end", "end", "end", "end");
        fault("6 4 0", "if 1", "if 1", "if 1", "if 1", "if 0", "end", "end", "end", "end", "end");
        fault("6 4 0", "if 1", "if 1", "if 1", "if 1", "repeat 1", "end", "end", "end", "end", "end");
        flat("", "if 1", "if 1", "if 1", "if 1", "repeat 0", "end", "end", "end", "end", "end");
        fault("6 1 5", "m: macro", "@a: m", "end", "m");
        fault("6 1 0", "m: macro", "m", "end", "m");
        fault("6 6 0", "repeat 5", "repeat 5", "end", "end", "repeat 5", "repeat 5", "repeat 1", "end", "end", "end");
        Due.same("60 EXPANSIONS", 60,
            Due.assembled("repeat 5", "repeat 5", "end", "end", "repeat 5", "repeat 5", "end", "end").image(7));
        fault("6 8 0", "repeat 5", "repeat 5", "end", "end", "repeat 5", "repeat 5", "end", "end", "repeat 1", "end");
        fault("0 -1 0", "repeat 5", "repeat 5", "end", "end", "repeat 5", "repeat 5", "end", "end", "if 1", "end");
    }

    private static void tooLong() {
        String[] full = {"repeat 5", "repeat 4", "stop", "stop", "stop", "stop", "stop", "stop", "end", "end"};
        Twopassworks w = Due.source(full);
        Due.same("assemble", 0, w.assemble());
        Due.same("120 FLAT lines", 120, w.flatLines());
        Due.same("isSound", true, w.isSound());
        String[] lines = {"stop", "a:", "weak a", "b: let 1"};
        for (String line : lines) {
            Due.line(w, 10, line);
            Due.same(line + " after 120", 7, w.assemble());
            Due.same("its line", 10, w.fault(1));
            Due.same("its column", 0, w.fault(2));
            w.cut(10);
        }
        Due.line(w, 10, "room 41");
        Due.same("RANGE ahead of LONG", 12, w.assemble());
        Due.same("flatten", 12, w.flatten());
        w.cut(10);
        w.put(0, 13, 15, 0, 0, 0);
        w.put(1, 0, 16, 0, 0, 0);
        w.put(12, 1, 113, 0, 0, 0);
        Due.same("a LABEL ahead of a call", 7, w.assemble());
        Due.same("its line", 12, w.fault(1));
        w.cut(12);
        w.put(12, 0, 113, 0, 0, 0);
        Due.same("a call that makes no FLAT line", 0, w.assemble());
        Due.same("flatten", 0, w.flatten());
        Due.same("lines()", 120, w.lines());
    }

    private static void flatten() {
        Twopassworks w = Due.source("m: macro", "@x:jump  @x ;r", "end", "a: m", "part 1", "word $ff , a");
        Due.same("flatten", 0, w.flatten());
        String[] due = {"a:", "x_1: jump x_1", "part 1", "word 255, a"};
        Due.same("lines()", due.length, w.lines());
        for (int i = 0; i < due.length; i++) {
            Due.same("line " + i, due[i], w.text(i));
        }
        Due.tooEarly("flatten makes no IMAGE", () -> w.flatLines());
        Due.line(w, 1, "end");
        Due.same("flatten with a fault", 5, w.flatten());
        Due.same("its line", 1, w.fault(1));
        Due.same("lines()", 5, w.lines());
        w.cut(1);
        Due.line(w, 0, "jump nowhere");
        Due.same("flatten looks at section 3 alone", 0, w.flatten());
        Due.same("fault", "0 -1 0", w.fault(0) + " " + w.fault(1) + " " + w.fault(2));
        Due.same("assemble", 9, w.assemble());
    }

    /** A word may be a NAME as well; what a source made of it is forgotten with the next one. */
    private static void wordsAsNames() {
        Twopassworks w = Due.source("byte: macro", "end", "word: let 1", "room: stop", "share room", "want jump",
            "weak call", "room word", "load: let load2", "load2: let 2");
        for (int i = 0; i < 4; i++) {
            Due.same("assemble() " + i, 0, w.assemble());
            Due.same("how many SYMBOLS", 6, w.image(5));
            Due.same("how many macros", 1, w.image(8));
            Due.same("share room", 1, w.ofSymbol(4, 5));
            Due.same("weak call", 4, w.ofSymbol(0, 0));
            Due.same("load", 2, w.ofSymbol(2, 1));
        }
        w.cut(4);
        for (int i = 0; i < 4; i++) {
            Due.same("assemble() without share " + i, 0, w.assemble());
            Due.same("room is not shared", 0, w.ofSymbol(4, 5));
        }
        w.cut(0);
        w.cut(0);
        w.cut(0);
        for (int i = 0; i < 4; i++) {
            Due.same("assemble() without let word " + i, 10, w.assemble());
            Due.same("what is not KNOWN", 3, w.fault(1));
        }
    }
}
