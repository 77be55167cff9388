/** Sections 5 and 6: VALUES, EQUATES, LITERALS and what is asked of them; promises 23, 33 and 39. */
public final class ValuesTest {
    public static void main(String[] args) {
        reckoning();
        bases();
        equates();
        asked();
        literals();
        value();
        Due.end();
    }

    private static void fault(String due, String... texts) {
        Due.same("fault of " + String.join("|", texts), due, Due.faultOf(texts));
    }

    private static void first(int number, int base, String text, String... others) {
        String[] texts = new String[others.length + 1];
        texts[0] = text;
        System.arraycopy(others, 0, texts, 1, others.length);
        Twopassworks w = Due.assembled(texts);
        Due.same("number of " + text, number, w.ofFlat(0, 10));
        Due.same("BASE of " + text, base, w.ofFlat(0, 11));
    }

    private static void reckoning() {
        first(7, -1, "word 1+2*3");
        first(9, -1, "word (1+2)*3");
        first(-5, -1, "word 1-2*3");
        first(-4, -1, "word 1-2-3");
        first(4, -1, "word 9/2");
        first(-4, -1, "word -9/2");
        first(-4, -1, "word 9/-2");
        first(6, -1, "word 9*2/3");
        first(8, -1, "word 9/2*2");
        first(-3, -1, "word -(1+2)");
        first(-1, -1, "word -3+2");
        first(-3, -1, "word 1-(-(2))*-2");
        first(5, -1, "word -(1-2)*(7-2)");
        first(65535, -1, "word 65535");
        fault("12 0 10", "word 65535+1");
        first(65535, -1, "word 65534+1");
        first(-65535, -1, "a: let 0-65535");
        first(-65535, -1, "a: let -65535");
        fault("12 0 13", "a: let -65535-1");
        fault("12 0 10", "word 32768*2");
        fault("12 0 11", "word -65535-1");
        fault("12 0 5", "word -65535");
        fault("12 0 8", "word 256*256/2");
        fault("13 0 6", "word 1/0");
        fault("13 0 6", "word 1/(2/3)");
    }

    private static void bases() {
        first(1, 1, "word a", "part 1", "stop", "a:");
        first(0, 0, "word .");
        first(3, 1, "word a+2", "part 1", "stop", "a:");
        first(3, 1, "word 2+a", "part 1", "stop", "a:");
        first(-1, 1, "word a-2", "part 1", "stop", "a:");
        first(-2, -1, "word a-b", "part 1", "stop", "a:", "byte 1,2", "b:");
        first(0, 10, "word v", "want v");
        first(5, 11, "word 5+v", "want v", "want a");
        first(0, -1, "word v-v", "want v");
        first(0, -1, "word v", "weak v");
        fault("11 0 6", "word a+b", "a:", "b:");
        fault("11 0 6", "word 1-a", "a:");
        fault("11 0 6", "word a-b", "a:", "part 1", "b:");
        fault("11 0 6", "word a-v", "a:", "want v");
        fault("11 0 5", "word -a", "a:");
        fault("11 0 6", "word a*1", "a:");
        fault("11 0 6", "word 1*a", "a:");
        fault("11 0 6", "word a/0", "a:");
        fault("11 0 6", "word .*2");
        fault("11 0 7", "word (.+.)*x", "stop");
        fault("9 0 5", "word x+1/0");
        fault("9 0 9", "word 1*2+x");
        fault("13 0 6", "word 1/0+x");
        first(0, -1, "word (a-b)*3", "a:", "b:");
    }

    private static void equates() {
        Twopassworks w = Due.assembled("a: let b+1", "b: let c+1", "c: let d", "stop", "d: stop", "e: let .");
        int[] numbers = {3, 2, 1, 1, 2};
        for (int i = 0; i < 5; i++) {
            Due.same("EQUATE " + i, numbers[i], w.ofSymbol(i, 1));
            Due.same("its BASE", 0, w.ofSymbol(i, 2));
        }
        Due.same("VALUE of a let line", 3, w.ofFlat(0, 10));
        fault("14 0 7", "a: let a");
        fault("14 0 7", "a: let b", "b: let a");
        fault("14 0 9", "a: let 1+b", "b: let c", "c: let b");
        fault("9 0 7", "a: let x");
        fault("9 0 7", "a: let x+b", "b: let a");
        fault("14 0 7", "a: let b", "b: let x");
        fault("13 1 8", "a: let b", "b: let 1/0");
        fault("13 1 8", "a: let x", "b: let 1/0");
        fault("11 0 7", "a: let -b", "b: stop");
        Due.same("what is weak alone", "0 -1 0", Due.faultOf("a: let x", "weak x"));
    }

    private static void asked() {
        fault("11 0 5", "byte a", "a:");
        fault("12 0 8", "byte 1,256");
        fault("12 0 5", "byte -129");
        fault("0 -1 0", "byte 255,-128");
        fault("11 0 5", "load .");
        fault("12 0 5", "load 256");
        fault("12 0 6", "load =-32769");
        fault("0 -1 0", "load =-32768", "load =65535", "load 255", "load -128");
        fault("12 0 8", "word 1,-32769");
        fault("0 -1 0", "word -32768,65535");
        fault("12 0 5", "jump -1");
        fault("12 0 5", "call -1");
        fault("0 -1 0", "jump 0", "jump 65535", "call 0", "call 65535", "want v", "call v-9", "jump v-9",
            "word v-60000");
        fault("9 1 6", "a: let 1", "share v", "want v");
        fault("9 0 6", "share v", "weak v");
        fault("9 0 6", "share v");
        fault("0 -1 0", "share a", "share b", "a: let 1", "b:");
        fault("9 0 5", "byte x", "share v");
        fault("9 0 6", "share v", "byte x");
        fault("12 0 5", "byte 999,x");
        Twopassworks w = Due.assembled("room 3", "share a", "a: stop", "part 1");
        for (int i = 0; i < 4; i++) {
            Due.same("number of " + i, 0, w.ofFlat(i, 10));
            Due.same("BASE of " + i, -1, w.ofFlat(i, 11));
        }
    }

    private static void literals() {
        Twopassworks w = Due.assembled("want v", "load =5", "load =v", "load =2+3", "a: load =a", "load =a-a+0",
            "load =v",
            "part 1", "load =5", "byte 1");
        Due.same("LITERALS", 5, w.image(6));
        Due.same("of PART 0", 4, w.part(0, 5));
        Due.same("of PART 1", 1, w.part(1, 5));
        int[][] due = {{5, -1, 18}, {0, 11, 20}, {9, 0, 22}, {0, -1, 24}};
        for (int i = 0; i < due.length; i++) {
            for (int what = 0; what <= 2; what++) {
                Due.same("LITERAL " + i + " " + what, due[i][what], w.literal(0, i, what));
            }
        }
        Due.same("LITERAL of PART 1", 30, w.literal(1, 0, 2));
        Due.same("a load's word", 18, w.byteAt(1));
        Due.same("LENGTH", 26, w.part(0, 1));
        Due.same("CODE", 18, w.part(0, 2));
    }

    private static void value() {
        Twopassworks w = Due.assembled("stop", "a: stop", "b: let 40", "want c", "weak d", "@x: let 9", "part 1", "e:");
        int[][] due = {
            // shape, x, y, code, number, BASE
            {1, 7, 0, 0, 7, -1}, {1, 2255, 0, 0, 255, -1}, {1, 1000, 0, 0, 1, 0}, {1, 1001, 0, 0, 40, -1},
            {1, 1002, 0, 0, 0, 12}, {1, 1003, 0, 0, 0, -1}, {1, 1123, 0, 0, 9, -1}, {1, 1023, 0, 9, 0, -1},
            {1, 1300, 0, 10, 0, -1}, {1, 1201, 0, 16, 0, -1}, {1, 1202, 0, 16, 0, -1}, {1, 1203, 0, 16, 0, -1},
            {1, 7, 1202, 0, 7, -1}, {8, 7, 1202, 0, -7, -1}, {3, 1000, 1001, 0, 41, 0}, {3, 1000, 1004, 11, 0, -1},
            {4, 1000, 1000, 0, 0, -1}, {4, 1001, 1000, 11, 0, -1}, {5, 1001, 1001, 0, 1600, -1},
            {5, 1000, 1, 11, 0, -1}, {6, 1001, 7, 0, 5, -1}, {6, 1001, 0, 13, 0, -1}, {7, 1001, 2, 0, 84, -1},
            {7, 1000, 2, 11, 0, -1}, {8, 1000, 0, 11, 0, -1}, {8, 1001, 0, 0, -40, -1}, {3, 1023, 1201, 16, 0, -1},
            {3, 1023, 1300, 9, 0, -1}, {3, 1300, 1023, 10, 0, -1}, {5, 999, 999, 12, 0, -1}};
        for (int[] row : due) {
            for (int what = 0; what <= 2; what++) {
                Due.same("value " + row[0] + " " + row[1] + " " + row[2] + " " + what, row[3 + what],
                    w.value(row[0], row[1], row[2], what));
            }
        }
        w.clear();
        Due.same("by the IMAGE, not the SOURCE", 40, w.value(1, 1001, 0, 1));
    }
}
