/** The boundary cases of sections 4 to 6: SYMBOLS, jumps, VALUES, EQUATES, and what is asked of VALUES. */
public final class ValueBoundsTest {
    public static void main(String[] args) {
        twice();
        marks();
        reach();
        onlyItsPart();
        passes();
        longChains();
        shortable();
        greatestNumbers();
        division();
        bases();
        asReckoned();
        names();
        rounds();
        roundsOfLongRows();
        numbersOfBytes();
        numbersOfWords();
        numbersOfJumps();
        orderOfFaults();
        shares();
        literals();
        Due.end();
    }

    private static void fault(String due, String... texts) {
        Due.same("fault of " + String.join("|", texts), due, Due.faultOf(texts));
    }

    private static void right(String... texts) {
        fault("0 -1 0", texts);
    }

    private static void first(int number, int base, String... texts) {
        Twopassworks w = Due.assembled(texts);
        Due.same("number of " + texts[0], number, w.ofFlat(0, 10));
        Due.same("BASE of " + texts[0], base, w.ofFlat(0, 11));
    }

    /** "If there is one of that NAME already: TWICE (at column 0, of want at its NAME)." */
    private static void twice() {
        fault("8 1 0", "a:", "a:");
        fault("8 1 0", "a: stop", "a: let 1");
        fault("8 1 0", "a: let 1", "a: stop");
        fault("8 1 0", "a: let 1", "a: let 1");
        fault("8 1 5", "a:", "want a");
        fault("8 1 5", "a: let 1", "want a");
        fault("8 1 5", "want a", "want a");
        fault("8 1 0", "want a", "a:");
        fault("8 1 0", "want a", "a: let b");
        right("a:", "aa:", "a_: let 1", "a0: stop", "want b", "want b0");
        right("@a:", "a:");
        fault("8 1 0", "@a:", "a_0:");
        fault("8 3 0", "m: macro", "end", "a:", "a: m");
        fault("8 1 0", "repeat 2", "a:", "end");
        right("repeat 2", "@a:", "end");
        right("a: macro", "end", "a: a");
    }

    /** "weak and share are marks": any number of them, and no SYMBOL twice. */
    private static void marks() {
        right("weak a", "weak a", "a:", "share a", "share a", "weak a");
        right("weak a", "want a");
        right("want a", "weak a", "weak a");
        right("weak a", "a: let 1");
    }

    /** "it reaches, if that is -16 to 15." */
    private static void reach() {
        for (int room = 0; room <= 40; room++) {
            Twopassworks w = Due.assembled("jump b", "room " + room, "b:");
            Due.same("REACH over " + room, room, w.reach(0));
            Due.same("SHORT over " + room, room <= 15 ? 1 : 2, w.ofFlat(0, 7));
            Due.same("SIZE over " + room, room <= 15 ? 2 : 3, w.ofFlat(0, 5));
            Due.same("LONG ones", room <= 15 ? 0 : 1, w.jumps(2));
            w = Due.assembled("b: room " + room, "jump b");
            Due.same("REACH back over " + room, -room - 2, w.reach(1));
            Due.same("SHORT back over " + room, room <= 14 ? 1 : 2, w.ofFlat(1, 7));
            Due.same("SHORTABLE", 1, w.ofFlat(1, 8));
        }
        Twopassworks w = Due.assembled("a: jump a");
        Due.same("REACH of itself", -2, w.reach(0));
        Due.same("its byte", 254, w.byteAt(1));
        w = Due.assembled("jump a", "a:");
        Due.same("REACH of the next one", 0, w.reach(0));
    }

    /** OFFSET: "the SIZES of all FLAT lines of its PART ahead of it". */
    private static void onlyItsPart() {
        Twopassworks w = Due.assembled("jump b", "room 15", "part 1", "room 40", "room 40", "part 0", "b:");
        Due.same("REACH", 15, w.reach(0));
        Due.same("SHORT", 1, w.ofFlat(0, 7));
        w = Due.assembled("b: room 14", "part 1", "room 40", "part 0", "jump b");
        Due.same("REACH back", -16, w.reach(4));
        w = Due.assembled("stop", "part 1", "a: byte 1,2,3", "part 2", "stop", "part 1", "b:", "part 0", "c:");
        int[] offsets = {0, 0, 0, 0, 0, 3, 3, 1, 1};
        for (int i = 0; i < offsets.length; i++) {
            Due.same("OFFSET " + i, offsets[i], w.ofFlat(i, 4));
        }
    }

    /** "all SHORT ones that do not reach become LONG (together). PASSES go on till one changes nothing." */
    private static void passes() {
        Due.same("without jumps", 1, Due.assembled().jumps(3));
        Due.same("nothing changes", 1, Due.assembled("a: jump a").jumps(3));
        Due.same("one changes", 2, Due.assembled("jump b", "room 16", "b:").jumps(3));
        // The second jump reaches just as long as the first one is SHORT; together they need two PASSES more.
        Twopassworks w = Due.assembled("a: jump b", "room 12", "jump a", "room 2", "b:");
        Due.same("REACH of the first", 17, w.reach(0));
        Due.same("REACH of the second", -17, w.reach(2));
        Due.same("one after the other", 3, w.jumps(3));
        Due.same("both LONG", 2, w.jumps(2));
        w = Due.assembled("a: jump b", "room 12", "jump a", "room 1", "b:");
        Due.same("both SHORT", 0, w.jumps(2));
        Due.same("in one PASS", 1, w.jumps(3));
        w = Due.assembled("jump c", "jump c", "room 16", "c:");
        Due.same("two in one PASS", 2, w.jumps(3));
        Due.same("LONG ones", 2, w.jumps(2));
        w = Due.assembled("jump c", "jump c", "room 15", "c:");
        Due.same("the second one reaches", 1, w.ofFlat(1, 7));
        Due.same("PASSES", 2, w.jumps(3));
    }

    /** Jumps each of which just reaches over the next one while that is SHORT; the last one has so much to cross. */
    private static String[] chain(int jumps, int last) {
        String[] texts = new String[3 * jumps + 2];
        for (int i = 0; i < jumps; i++) {
            texts[3 * i] = "jump t" + i;
            texts[3 * i + 1] = "room 2";
            texts[3 * i + 2] = i == 0 ? "room 9" : "t" + (i - 1) + ": room 9";
        }
        texts[3 * jumps] = "room " + last;
        texts[3 * jumps + 1] = "t" + (jumps - 1) + ":";
        return texts;
    }

    /** A PASS for each jump, and a round of SHRINKING for each. */
    private static void longChains() {
        Twopassworks w = Due.assembled(chain(27, 5));
        int[] due = {27, 27, 27, 28, 27};
        for (int what = 0; what < 5; what++) {
            Due.same("jumps(" + what + ") of a chain that breaks", due[what], w.jumps(what));
        }
        w = Due.assembled(chain(27, 4));
        int[] held = {27, 27, 0, 1, 0};
        for (int what = 0; what < 5; what++) {
            Due.same("jumps(" + what + ") of a chain that holds", held[what], w.jumps(what));
        }
    }

    /** "SHORTABLE, if its EXPRESSION is one NAME alone, that of a label of the same PART; others are LONG." */
    private static void shortable() {
        Object[][] due = {
            // jump, whether it is SHORTABLE
            {"jump a", 1}, {"jump b", 1}, {"jump m_0", 1}, {"jump (a)", 0}, {"jump a+0", 0}, {"jump a-0", 0},
            {"jump 0+a", 0}, {"jump 0", 0}, {"jump .", 0}, {"jump e", 0}, {"jump v", 0}, {"jump w", 0}, {"jump c", 0},
            {"x: jump x", 1}, {"x: jump a", 1}, {"jump @m", 1}};
        for (Object[] row : due) {
            Twopassworks w = Due.assembled((String) row[0], "a:", "b: stop", "e: let a", "want v", "weak w", "@m:",
                "part 1", "c: stop");
            Due.same("SHORTABLE " + row[0], row[1], w.ofFlat(0, 8));
            Due.same("SHORT or LONG " + row[0], 2 - (int) row[1], w.ofFlat(0, 7));
            Due.same("SIZE " + row[0], 3 - (int) row[1], w.ofFlat(0, 5));
            Due.same("how many jumps with " + row[0], 1, w.jumps(0));
            Due.same("how many SHORTABLE with " + row[0], row[1], w.jumps(1));
            Due.same("how many LONG with " + row[0], 1 - (int) row[1], w.jumps(2));
            Due.same("LONG by SHRINKING with " + row[0], 1 - (int) row[1], w.jumps(4));
            if ((int) row[1] == 0) {
                Due.illegal("reach of " + row[0], () -> w.reach(0));
            }
        }
    }

    /** "What comes out above 65535 or below -65535: RANGE at the sign." */
    private static void greatestNumbers() {
        first(65535, -1, "a: let 65534+1");
        fault("12 0 12", "a: let 65535+1");
        first(65535, -1, "a: let 65535+0");
        first(65535, -1, "a: let 65534--1");
        fault("12 0 12", "a: let 65535--1");
        first(-65535, -1, "a: let -65535-0");
        fault("12 0 13", "a: let -65535-1");
        fault("12 0 13", "a: let -65535+-1");
        first(-65535, -1, "a: let 0-65535");
        fault("12 0 8", "a: let 1-(0-65535)");
        first(65535, -1, "a: let 255*257");
        fault("12 0 10", "a: let 256*256");
        first(-65535, -1, "a: let -255*257");
        fault("12 0 11", "a: let -256*256");
        fault("12 0 12", "a: let 65535*65535");
        fault("12 0 12", "a: let 65535*-65535");
        fault("12 0 12", "a: let 50000*50000");
        fault("12 0 13", "a: let (65535+1)-1");
        first(65535, 0, "a: let b+65535", "b:");
        fault("12 0 8", "a: let b+65535", "stop", "b:");
        first(-65535, 0, "a: let b-65535", "b:");
        fault("12 0 14", "a: let b-65535-1", "b:");
        first(65535, 11, "a: let v+65535", "want v");
        first(-1, -1, "a: let b-c", "b:", "stop", "c:");
    }

    /** "what is divided is rounded towards 0"; "/ by 0: ZERO at the sign". */
    private static void division() {
        int[] numbers = {0, 1, -1, 2, -2, 3, -3, 7, -7, 65535, -65535};
        for (int left : numbers) {
            for (int right : numbers) {
                String text = "a: let (" + left + ")/(" + right + ")";
                if (right == 0) {
                    fault("13 0 " + text.indexOf('/'), text);
                } else {
                    int size = Math.abs(left) / Math.abs(right);
                    first(left < 0 != right < 0 ? -size : size, -1, text);
                }
            }
        }
        fault("13 0 8", "a: let 1/(1-1)");
        fault("13 0 8", "a: let 0/0");
        fault("13 0 8", "a: let 5/(1/2)");
    }

    private static int baseOf(char name) {
        switch (name) {
            case 'a':
                return 0;
            case 'b':
                return 1;
            case 'u':
                return 13;
            case 'v':
                return 14;
            default:
                return -1;
        }
    }

    /** Which BASES + - * / may join, and what comes out: each of NONE, two PARTS, two WANTED ones with each. */
    private static void bases() {
        String[] rest = {"stop", "n: let 5", "want u", "want v", "a:", "part 1", "byte 1,2", "b:"};
        for (char left : "nabuv".toCharArray()) {
            for (char right : "nabuv".toCharArray()) {
                for (char sign : "+-*/".toCharArray()) {
                    String[] texts = new String[rest.length + 1];
                    texts[0] = "word " + left + sign + right;
                    System.arraycopy(rest, 0, texts, 1, rest.length);
                    int its = baseOf(left);
                    int other = baseOf(right);
                    boolean may = sign == '+' ? its < 0 || other < 0 : sign == '-' ? other < 0 || other == its
                        : its < 0 && other < 0;
                    if (may) {
                        int base = sign == '+' ? Math.max(its, other) : other < 0 ? its : -1;
                        Due.same("BASE of " + texts[0], base, Due.assembled(texts).ofFlat(0, 11));
                    } else {
                        fault("11 0 6", texts);
                    }
                }
            }
            String[] minus = {"word -" + left, "stop", "n: let 5", "want u", "want v", "a:", "part 1", "b:"};
            fault(left == 'n' ? "0 -1 0" : "11 0 5", minus);
        }
        fault("11 0 6", "word ./0");
        fault("11 0 6", "word 0/.");
        first(0, -1, "word -(.-.)");
    }

    /** "the left side first, then the right side, then it itself." */
    private static void asReckoned() {
        first(3839, -1, "word 1+2*(3+4*(5+6*(7+8*9)))");
        first(3155, -1, "word 1-2*(3-4*(5-6*(7-8*9)))");
        first(-301, -1, "word 1-2*(3+4*-(5-6*7))");
        fault("9 0 5", "word x+1/0");
        fault("13 0 6", "word 1/0+x");
        fault("9 0 7", "word .*x");
        fault("11 0 5", "word -.*x");
        fault("11 0 7", "word (.+.)*x");
        fault("12 0 10", "word 65535+1+x");
        fault("9 0 9", "word 1-2*x");
        fault("9 0 7", "word .-x/0");
        fault("13 0 8", "word 1-2/0*x");
        fault("11 0 6", "word .+.+x");
        fault("9 0 9", "word (.-(x))");
        fault("13 0 6", "word 1/0/x");
    }

    /** NAME: label, EQUATE, WANTED; "otherwise with a weak mark in any FLAT line 0 and NONE; otherwise UNKNOWN". */
    private static void names() {
        first(2, 0, "word x", "x: byte 1", "weak x");
        first(7, -1, "word x", "x: let 7", "weak x");
        first(0, 10, "word x", "want x", "weak x");
        first(0, -1, "word x", "weak x");
        first(0, -1, "word x", "part 3", "weak x");
        fault("9 0 5", "word x");
        fault("9 0 5", "word x", "share x");
        fault("9 0 5", "word x", "if 0", "weak x", "end");
        fault("9 2 5", "x: macro", "end", "word x");
        fault("9 0 5", "word x", "xx:");
        fault("9 0 5", "word xx", "x:");
    }

    /** "If a round brings none and some are left: .. UNKNOWN, if it is no SYMBOL, otherwise ROUND." */
    private static void rounds() {
        Twopassworks w = Due.assembled("a: let b+1", "b: let c+1", "c: let d+1", "d: let e+1", "e: let 1");
        for (int i = 0; i < 5; i++) {
            Due.same("EQUATE " + i, 5 - i, w.ofSymbol(i, 1));
        }
        fault("14 0 7", "a: let a");
        fault("14 0 7", "a: let b", "b: let a");
        fault("9 0 7", "a: let x");
        fault("9 0 7", "a: let x+b", "b: let a");
        fault("14 0 7", "a: let b+x", "b: let a");
        fault("14 0 7", "a: let b", "b: let x");
        fault("9 0 11", "a: let 1+c+x", "c: let 1");
        fault("9 1 7", "c: let 1", "a: let x+a");
        fault("14 1 7", "c: let 1", "a: let a+x");
        fault("9 0 7", "a: let x", "share x");
        right("a: let x", "weak x");
        right("a: let x", "want x");
        right("a: let x", "x:");
        String[] all = new String[120];
        for (int i = 0; i < 119; i++) {
            all[i] = "e" + i + ": let e" + (i + 1) + "+1";
        }
        all[119] = "e119: let 1";
        w = Due.assembled(all);
        for (int at = 0; at < 120; at++) {
            int number = Integer.parseInt(w.symbol(at).substring(1));
            Due.same("EQUATE " + w.symbol(at), 120 - number, w.ofSymbol(at, 1));
        }
        all[119] = "e119: let e0";
        fault("14 0 8", all);
        Twopassworks mended = Due.source(all);
        Due.same("with a ROUND", 14, mended.assemble());
        mended.cut(119);
        Due.line(mended, 119, "e119: let 1");
        Due.same("mended", 0, mended.assemble());
        Due.same("the first one then", 120, mended.ofSymbol(0, 1));
        all[119] = "e119: let x";
        fault("14 0 8", all);
        all[60] = "e60: let 5";
        fault("14 61 9", all);
        all[119] = "e119: stop";
        right(all);
        // A fault of an earlier round comes first, wherever its line stands.
        fault("11 1 10", "a: let b/0", "b: let 1+.*2");
        fault("13 1 8", "a: let x", "b: let 1/0");
        fault("13 0 8", "a: let b/0", "b: let 1");
        fault("9 1 7", "byte 256", "a: let x");
    }

    /** The same where the NAMES stand far behind in an argument that is handed on. */
    private static void roundsOfLongRows() {
        String[] begin = {"m: macro", "e: let 0+0+%1", "end"};
        String[][] due = {
            // fault, argument, another row
            {"0 -1 0", "1+2+3+4+5+y+6", "y: let 7"}, {"9 1 21", "1+2+3+4+5+x+6", "y: let 7"},
            {"14 1 21", "1+2+3+4+5+e+x", "y: let 7"}, {"14 1 25", "1+2+3+4+5+y+7+e+x", "y: let 7"},
            {"9 1 25", "1+2+3+4+5+y+7+x+e", "y: let 7"}, {"14 1 21", "1+2+3+4+5+y+6", "y: let e"},
            {"9 1 21", "1+2+3+4+5+x+y", "y: let e"}, {"14 1 29", "1+2+3+4+5+y+6+7+8+e", "y: let 7"},
            {"9 1 25", "1+2+3+4+5+y/0+x", "y: let 7"}, {"13 1 22", "1+2+3+4+5+y/0+y", "y: let 7"}};
        for (String[] row : due) {
            fault(row[0], begin[0], begin[1], begin[2], "m " + row[1], row[2]);
        }
    }

    /** "byte, and load without "=": BASE, if it has one; RANGE, if it is not -128 to 255", at its first TOKEN. */
    private static void numbersOfBytes() {
        for (String word : new String[] {"byte", "load"}) {
            fault("12 0 5", word + " -129");
            right(word + " -128");
            right(word + " 255");
            fault("12 0 5", word + " 256");
            fault("12 0 5", word + " (1+255)");
            fault("12 0 5", word + " 65535");
            fault("11 0 5", word + " .");
            fault("11 0 5", word + " .+300");
            fault("11 0 5", word + " v", "want v");
            right(word + " .-.");
            right(word + " w", "weak w");
        }
        right("byte -128,255,0");
        fault("12 0 8", "byte 1,256");
        fault("12 0 8", "byte 1,-129");
        fault("12 0 11", "byte 1,2,256");
        fault("11 0 8", "byte 1,.,256");
        Due.same("bytes modulo 256", "128 255 255 0", bytes(Due.assembled("byte -128,-1,255", "byte 0"), 0, 4));
        Due.same("a load's byte", "48 128 48 255", bytes(Due.assembled("load -128", "load 255"), 0, 4));
    }

    private static String bytes(Twopassworks w, int from, int to) {
        StringBuilder all = new StringBuilder();
        for (int i = from; i < to; i++) {
            all.append(i > from ? " " : "").append(w.byteAt(i));
        }
        return all.toString();
    }

    /** "word, and load with "=": RANGE, if it has no BASE and is not -32768 to 65535." */
    private static void numbersOfWords() {
        for (String begin : new String[] {"word ", "load ="}) {
            int size = begin.length();
            fault("12 0 " + size, begin + "-32769");
            right(begin + "-32768");
            right(begin + "65535");
            fault("12 0 " + size, begin + "-65535");
            fault("12 0 " + size, begin + "(1-32770)");
            right(begin + ".-32769");
            right(begin + ".-65535");
            right(begin + "v-65535", "want v");
            right(begin + "v+65535", "want v");
            fault("12 0 " + size, begin + "w-40000", "weak w");
        }
        fault("12 0 8", "word 1,-32769");
        fault("12 0 11", "word 1,2,-32769");
        Due.same("words modulo 65536", "0 128 255 255 255 255",
            bytes(Due.assembled("word -32768,-1,65535"), 0, 6));
    }

    /** "jump and call: RANGE, if it has no BASE and is not 0 to 65535." */
    private static void numbersOfJumps() {
        for (String word : new String[] {"jump", "call"}) {
            fault("12 0 5", word + " -1");
            right(word + " 0");
            right(word + " 65535");
            fault("12 0 5", word + " -65535");
            fault("12 0 5", word + " (0-1)");
            right(word + " .-1");
            right(word + " .-65535");
            right(word + " v-1", "want v");
            right(word + " w", "weak w");
            fault("12 0 5", word + " w-1", "weak w");
        }
        fault("12 0 8", "x: jump -1");
    }

    /** "FLAT line by FLAT line (but those of let), in each its EXPRESSIONS in order." */
    private static void orderOfFaults() {
        fault("12 0 5", "byte 256,x");
        fault("9 0 5", "byte x,256");
        fault("12 0 5", "byte 256", "byte x");
        fault("9 0 5", "word x", "byte 256");
        fault("9 1 7", "byte 256", "a: let b");
        fault("8 2 0", "byte 256", "a:", "a:");
        fault("12 0 5", "byte 256", "share x");
        fault("9 0 6", "share x", "byte 256");
        fault("9 2 5", "from 0", "part 1", "word x", "from 0", "part 0", "stop", "part 1");
        right("a: let 65535", "b: let -65535", "c: let .");
    }

    /** "share: UNKNOWN at its NAME, if that is no label and no EQUATE." */
    private static void shares() {
        right("share a", "a:");
        right("share a", "a: let 1");
        fault("9 0 6", "share a");
        fault("9 0 6", "share a", "want a");
        fault("9 0 6", "share a", "weak a");
        fault("9 1 6", "share a", "share b", "a:");
        right("share a", "share a", "weak a", "a:");
    }

    /** "the VALUES of its load lines with "=", each once, in the order in which they come first." */
    private static void literals() {
        Twopassworks w = Due.assembled("load =65535", "load =-1", "load =2+3", "load =5", "load =b", "load =v",
            "load =w", "load =0", "load =b-0", "b: load 5", "part 1", "load =5", "want v", "weak w");
        int[][] due = {{65535, -1}, {-1, -1}, {5, -1}, {27, 0}, {0, 11}, {0, -1}};
        Due.same("LITERALS of PART 0", due.length, w.part(0, 5));
        for (int i = 0; i < due.length; i++) {
            Due.same("number of LITERAL " + i, due[i][0], w.literal(0, i, 0));
            Due.same("BASE of LITERAL " + i, due[i][1], w.literal(0, i, 1));
            Due.same("address of LITERAL " + i, 29 + 2 * i, w.literal(0, i, 2));
        }
        Due.outside("one LITERAL more", () -> w.literal(0, due.length, 0));
        Due.same("LITERALS of PART 1", 1, w.part(1, 5));
        Due.same("its number", 5, w.literal(1, 0, 0));
        Due.same("LITERALS", due.length + 1, w.image(6));
        Due.same("none without load =", 0, Due.assembled("load 1").image(6));
    }
}
