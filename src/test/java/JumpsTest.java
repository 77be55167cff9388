/** Promises 23, 28 to 30, 34, 35: sections 4 and 8, SYMBOLS, SIZES, short and long jumps. */
public final class JumpsTest {
    public static void main(String[] args) {
        twice();
        symbols();
        uses();
        sizes();
        shortable();
        reaches();
        passes();
        shrinking();
        Due.end();
    }

    private static void twice() {
        Due.same("two labels", "8 1 0", Due.faultOf("a: stop", "a: stop"));
        Due.same("a label and an EQUATE", "8 1 0", Due.faultOf("a:", "a: let 1"));
        Due.same("a WANTED one last", "8 1 5", Due.faultOf("a: let b", "want a"));
        Due.same("a WANTED one first", "8 1 0", Due.faultOf("want a", "a: let b"));
        Due.same("wanted twice", "8 1 5", Due.faultOf("want a", "want a"));
        Due.same("a LABEL ahead of a call", "8 3 0", Due.faultOf("m: macro", "end", "a:", "a: m"));
        Due.same("marks", "0 -1 0", Due.faultOf("weak a", "weak a", "share a", "share a", "a: stop"));
        Due.same("NAMES of one length", "0 -1 0", Due.faultOf("ab: stop", "ef: stop", "a1: stop", "word ab-ef+a1"));
        Due.same("a macro and a label", "0 -1 0", Due.faultOf("a: macro", "end", "a: a"));
    }

    private static void symbols() {
        Twopassworks w = Due.assembled("stop", "b: stop", "weak z", "weak z", "ab: let b", "want a_", "a1: let 7",
            "share b", "weak b", "a:", "weak a_", "part 2", "a0: byte 1");
        String[] names = {"a", "a0", "a1", "a_", "ab", "b", "z"};
        int[][] facts = {
            {1, 2, 0, 9, 0, 0, 0}, {1, 0, 2, 12, 0, 0, 0}, {2, 7, -1, 6, 0, 0, 0}, {3, 0, 13, 5, 2, 0, 1},
            {2, 1, 0, 4, 0, 0, 0}, {1, 1, 0, 1, 3, 1, 1}, {4, 0, -1, 2, 2, 0, 1}};
        Due.same("SYMBOLS", names.length, w.image(5));
        for (int i = 0; i < names.length; i++) {
            Due.same("SYMBOL " + i, names[i], w.symbol(i));
            for (int what = 0; what <= 6; what++) {
                Due.same(names[i] + " " + what, facts[i][what], w.ofSymbol(i, what));
            }
        }
    }

    private static void uses() {
        Twopassworks w = Due.assembled("want b", "a: word a,a+1,b", "room 0",
            "c: let a", "share c", "jump (c)", "weak b", "a_: load =-(2-1)", "call b");
        int[][] due = {{1, 3}, {}, {0, 1, 6, 8}, {4, 5}};
        for (int i = 0; i < due.length; i++) {
            int symbol = i;
            Due.same("how many USE " + w.symbol(i), due[i].length, w.ofSymbol(i, 4));
            for (int place = 0; place < due[i].length; place++) {
                Due.same("use " + place + " of " + w.symbol(i), due[i][place], w.use(i, place));
            }
            Due.outside("one use more of " + w.symbol(i), () -> w.use(symbol, due[symbol].length));
        }
    }

    private static void sizes() {
        Twopassworks w = Due.assembled("byte 1,2,3", "word 1,2", "room 7", "a: jump a", "jump 5", "call a", "load 1",
            "load =1", "stop", "b: let 1", "part 0", "align 1", "share a", "weak a", "c:", "part 1", "jump a",
            "byte 1");
        int[] sizes = {3, 4, 7, 2, 3, 3, 2, 3, 1, 0, 0, 0, 0, 0, 0, 0, 3, 1};
        int offset = 0;
        for (int i = 0; i < sizes.length; i++) {
            if (i == 15) {
                offset = 0;
            }
            Due.same("SIZE " + i, sizes[i], w.ofFlat(i, 5));
            Due.same("OFFSET " + i, offset, w.ofFlat(i, 4));
            Due.same("PART " + i, i < 15 ? 0 : 1, w.ofFlat(i, 3));
            offset += sizes[i];
        }
        Due.same("word of a LABEL alone", 0, w.ofFlat(14, 2));
        Due.same("TOKENS", 7, w.ofFlat(0, 9) + 1);
        Due.same("word", 2, w.ofFlat(1, 2));
    }

    private static void shortable() {
        Twopassworks w = Due.assembled("a: jump a", "jump (a)", "jump a+0", "jump b", "b: let a", "want c", "jump c",
            "part 1", "jump a", "d: jump d", "part 0", "stop");
        int[] short1 = {1, 2, 2, 2, 0, 0, 2, 0, 2, 1, 0, 0};
        for (int i = 0; i < short1.length; i++) {
            int at = i;
            Due.same("SHORT or LONG " + i, short1[i], w.ofFlat(i, 7));
            Due.same("SHORTABLE " + i, short1[i] == 1 ? 1 : 0, w.ofFlat(i, 8));
            if (short1[i] != 1) {
                Due.illegal("reach " + i, () -> w.reach(at));
            }
        }
        Due.same("jumps", 7, w.jumps(0));
        Due.same("SHORTABLE", 2, w.jumps(1));
        Due.same("LONG", 5, w.jumps(2));
        Due.same("LONG by SHRINKING", 5, w.jumps(4));
        Due.same("no jumps", 0, Due.assembled("stop").jumps(0));
        Due.same("one PASS", 1, Due.assembled("stop").jumps(3));
    }

    private static void reaches() {
        Twopassworks w = Due.assembled("a: jump b", "room 15", "b: stop");
        Due.same("15 reaches", 1, w.ofFlat(0, 7));
        Due.same("reach", 15, w.reach(0));
        w = Due.assembled("a: jump b", "room 16", "b: stop");
        Due.same("16 does not reach", 2, w.ofFlat(0, 7));
        Due.same("reach as if SHORT", 16, w.reach(0));
        w = Due.assembled("b: room 14", "jump b");
        Due.same("-16 reaches", 1, w.ofFlat(1, 7));
        Due.same("reach", -16, w.reach(1));
        Due.same("its byte", 240, w.byteAt(15));
        w = Due.assembled("b: room 15", "jump b");
        Due.same("-17 does not reach", 2, w.ofFlat(1, 7));
        Due.same("reach", -17, w.reach(1));
        w = Due.assembled("jump b", "part 1", "room 40", "part 0", "b: stop");
        Due.same("another PART is no way", 0, w.reach(0));
    }

    private static void passes() {
        Twopassworks w = Due.assembled("jump a", "jump b", "room 13", "a: room 2", "b: stop");
        Due.same("a reaches at first", 15, w.reach(0));
        Due.same("PASSES", 1, w.jumps(3));
        w = Due.assembled("jump a", "jump b", "room 13", "a: room 3", "b: stop");
        Due.same("LONG", 2, w.jumps(2));
        Due.same("PASSES", 3, w.jumps(3));
        Due.same("reach of the first", 16, w.reach(0));
        Due.same("reach of the second", 16, w.reach(1));
    }

    private static void shrinking() {
        Twopassworks w = Due.assembled("a: jump b", "room 12", "jump a", "b: stop");
        Due.same("both SHORT", 0, w.jumps(2));
        Due.same("LONG by SHRINKING", 0, w.jumps(4));
        w = Due.assembled("a: jump b", "room 12", "jump a", "stop", "b: stop");
        Due.same("both SHORT", 0, w.jumps(2));
        Due.same("SHRINKING stays LONG", 2, w.jumps(4));
        w = Due.assembled("x: jump b", "room 13", "a:", "jump x", "b: stop");
        Due.same("reach of the first", 16, w.reach(0));
        Due.same("reach of the second", -18, w.reach(3));
    }
}
