/**
 * NAMES and EXPRESSIONS of which macros make so much in some hundred calls that nobody could go through them sign by
 * sign: they are told apart, put in order, tidied and reckoned as short ones are (sections 1, 4, 5, 8).
 */
public final class EndlessTest {
    public static void main(String[] args) {
        namesInOrder();
        unlikeNames();
        tidied();
        sums();
        sumsThatFault();
        basesOnTheWay();
        sumsAtTheBounds();
        oneInsideTheOther();
        factors();
        factorsThatFault();
        Due.end();
    }

    /** Turns each of the first so many lines "word .." into a macro's argument; the macro's rows stand behind. */
    private static void callAgain(Twopassworks w, int lines, String... rows) {
        for (int i = 0; i < lines; i++) {
            for (int times = 0; times < 3; times++) {
                w.rub(i, 0);
            }
        }
        w.put(0, 4, 15, 0, 0, 0);
        for (int i = 0; i < rows.length; i++) {
            Due.line(w, i + 1, rows[i]);
        }
        w.put(rows.length + 1, 0, 16, 0, 0, 0);
        Due.same("flatten()", 0, w.flatten());
    }

    /** Doubles the NAMES of the first so many lines, which are that long. */
    private static void twice(Twopassworks w, int lines, int size) {
        for (int i = 0; i < lines; i++) {
            for (int times = 0; times < 3; times++) {
                w.rub(i, 0);
            }
        }
        w.put(0, 4, 15, 0, 0, 0);
        w.put(1, 0, 2, 3, 1201, 1201);
        w.put(2, 0, 16, 0, 0, 0);
        Due.same("flatten()", 0, w.flatten());
        for (int i = 0; i < lines; i++) {
            Due.same("rub()", (int) '+', w.rub(i, 5 + size));
        }
    }

    /** The line 0 becomes "word" and itself 2, 4, 8 or 16 times, a sign (of a SHAPE) between. */
    private static void again(Twopassworks w, int levels, int shape) {
        for (int times = 0; times < 3; times++) {
            w.rub(0, 0);
        }
        for (int level = 0; level < levels; level++) {
            w.put(3 * level, 4 + level, 15, 0, 0, 0);
            w.put(3 * level + 1, 0, level == levels - 1 ? 2 : 105 + level, shape, 1201, 1201);
            w.put(3 * level + 2, 0, 16, 0, 0, 0);
        }
        Due.same("flatten() again", 0, w.flatten());
    }

    private static String fault(Twopassworks w) {
        return w.fault(0) + " " + w.fault(1) + " " + w.fault(2);
    }

    private static void weak(Twopassworks w, int lines) {
        callAgain(w, lines, "weak %1");
        Due.same("assemble()", 0, w.assemble());
    }

    /** "ab" and "ba" so many times each. */
    private static Twopassworks abAndBa(int times) {
        Twopassworks w = Due.source("word ab", "word ba");
        int size = 2;
        for (; size < 2 * times; size *= 2) {
            twice(w, 2, size);
        }
        return w;
    }

    /** "ab" again and again with an "a" behind is "a" with "ba" again and again behind. */
    private static void namesInOrder() {
        int size = 1 << 29;
        Twopassworks w = abAndBa(size / 2);
        // a macro of two rows for each of them
        callAgain(w, 2, "word %1+a", "word a+%1");
        int[] columns = {5 + size, 6, 5 + size, 6};
        for (int i = 0; i < 4; i++) {
            Due.same("rub of +", (int) '+', w.rub(i, columns[i]));
            Due.same("length", 6 + size, w.length(i));
        }
        // abab..aba, aabab..ab, baba..baa, ababa..ba: the first one and the last one are the same
        weak(w, 4);
        Due.same("SYMBOLS", 3, w.image(5));
        int[] due = {1, 0, 2};
        int[] uses = {1, 2, 1};
        for (int i = 0; i < 3; i++) {
            Due.same("FLAT line of SYMBOL " + i, due[i], w.ofSymbol(i, 3));
            Due.same("how many USE it", uses[i], w.ofSymbol(i, 4));
        }
        Due.same("the last one to USE it", 3, w.use(1, 1));
        Due.same("isSound()", true, w.isSound());
        Due.same("digest() twice", w.digest(), w.digest());
        // one sign fewer in the first one, far behind: an "a" is gone, so that it comes behind the other one
        Due.same("flatten()", 0, w.flatten());
        Due.same("rub()", (int) 'a', w.rub(0, 5 + size / 2 + 1000));
        Due.same("assemble()", 0, w.assemble());
        Due.same("SYMBOLS then", 4, w.image(5));
        Due.same("the last one is ahead", 3, w.ofSymbol(1, 3));
        Due.same("the first one is behind", 0, w.ofSymbol(2, 3));
        // the same "a" gone in the last one
        Due.same("rub() there", (int) 'a', w.rub(3, 5 + size / 2 + 1000));
        Due.same("assemble()", 0, w.assemble());
        Due.same("SYMBOLS at last", 3, w.image(5));
        Due.same("how many USE it", 2, w.ofSymbol(1, 4));
        Due.same("tidy()", 0, w.tidy());
    }

    /** What differs by far in nothing but one sign; the shorter one is ahead where it is a beginning. */
    private static void unlikeNames() {
        for (int sign = 'a'; sign <= 'b'; sign++) {
            Twopassworks w = Due.source("word a");
            int size = 1;
            for (; size < 1 << 28; size *= 2) {
                twice(w, 1, size);
            }
            callAgain(w, 1, "word %1+" + (char) sign + "+%1", "word %1+a+%1", "word %1+%1", "word %1+0+%1");
            for (int i = 0; i < 4; i++) {
                w.rub(i, 5 + size);
            }
            for (int i = 0; i < 4; i++) {
                if (i != 2) {
                    w.rub(i, 6 + size);
                }
            }
            weak(w, 4);
            Due.same("SYMBOLS with " + (char) sign, sign == 'a' ? 3 : 4, w.image(5));
            int[] due = sign == 'a' ? new int[] {3, 2, 0} : new int[] {3, 2, 1, 0};
            for (int i = 0; i < due.length; i++) {
                Due.same("FLAT line of SYMBOL " + i + " with " + (char) sign, due[i], w.ofSymbol(i, 3));
            }
            // want takes each NAME but once
            for (int i = 0; i < 4; i++) {
                w.rub(i, 0);
                w.rub(i, 1);
                w.rub(i, 1);
            }
            w.put(0, 5, 15, 0, 0, 0);
            w.put(1, 0, 13, 1, 1201, 0);
            w.put(2, 0, 16, 0, 0, 0);
            Due.same("assemble() of want with " + (char) sign, sign == 'a' ? 8 : 0, w.assemble());
            Due.same("TWICE with " + (char) sign, sign == 'a' ? "8 1 5" : "0 -1 0", fault(w));
        }
    }

    private static void tidied() {
        Twopassworks w = abAndBa(1 << 27);
        callAgain(w, 2, "word %1+a", "word a+%1");
        int size = 1 << 28;
        int[] columns = {5 + size, 6, 5 + size, 6};
        for (int i = 0; i < 4; i++) {
            w.rub(i, columns[i]);
        }
        Due.same("tidy() of what is tidy", 0, w.tidy());
        Due.same("flatten()", 0, w.flatten());
        Due.same("tidy() then", 0, w.tidy());
        w.rub(1, size / 2);
        w.rub(1, 4);
        w.rub(2, 4);
        Due.same("tidy() without blanks", 0, w.tidy());
        Due.same("tokens", 1, w.tokens(2));
        Due.same("length", 5 + size, w.length(2));
    }

    // ---- EXPRESSIONS

    /** 0+1 so many times, with + between: the number is how many. */
    private static Twopassworks ones(int levels) {
        Twopassworks w = Due.source("word 0+1");
        for (int left = levels; left > 0; left -= 4) {
            again(w, Math.min(left, 4), 3);
        }
        return w;
    }

    private static void sums() {
        Twopassworks w = ones(15);
        Due.same("assemble() of a sum", 0, w.assemble());
        Due.same("its number", 32768, w.ofFlat(0, 10));
        for (int round = 0; round < 3; round++) {
            callAgain(w, 1, "word (%1)-(%1)+1");
            Due.same("assemble() of what goes up and down", 0, w.assemble());
            Due.same("number of it", 1, w.ofFlat(0, 10));
            for (int levels : new int[] {4, 4, 4, 3}) {
                again(w, levels, 3);
            }
            Due.same("assemble() of that again and again", 0, w.assemble());
            Due.same("number then", 32768, w.ofFlat(0, 10));
        }
        Due.same("isSound()", true, w.isSound());
        // 32768 is written as 0 and 128
        Due.same("trial()", 1, w.trial(0, 0, 7, 0, 0, 0));
        Due.same("digest() twice", w.digest(), w.digest());
    }

    private static void sumsThatFault() {
        // 65535 is reached with the first half of 131072 times 0+1: 4 signs each
        Twopassworks w = ones(17);
        Due.same("assemble()", 12, w.assemble());
        Due.same("RANGE", "12 0 " + (5 + 65535 * 4 + 1), fault(w));
        callAgain(w, 1, "word 7-65535*(3-(%1))");
        Due.same("assemble() in parentheses", 12, w.assemble());
        Due.same("RANGE there", "12 0 " + (5 + 8 + 4 + 65535 * 4 + 1), fault(w));
        // up by 1024 and down, and 1 more, so many times
        w = ones(10);
        callAgain(w, 1, "word (%1)-(%1)+1");
        int size = 2 * (4 * 1024 - 1) + 7;
        Due.same("length", 5 + size, w.length(0));
        for (int round = 0; round < 4; round++) {
            again(w, 4, 3);
        }
        again(w, 1, 3);
        Due.same("assemble() of 131072 of them", 12, w.assemble());
        // 1024 more are too many behind 64512 of them
        Due.same("RANGE", "12 0 " + (5 + 64512 * (size + 1) - 1), fault(w));
        // the last number of all is 0 and divides
        w = ones(12);
        callAgain(w, 1, "word (%1)/(%1-4096)");
        Due.same("assemble()", 13, w.assemble());
        Due.same("ZERO", "13 0 " + (5 + 4 * 4096 + 1), fault(w));
    }

    /** Labels of two PARTS and WANTED symbols come and go in a sum. */
    private static void basesOnTheWay() {
        String[] terms = {"y-x", "y-x+z-z", "y-x+w-w", "w-w+v-v+0", "z-z+1-1"};
        for (String term : terms) {
            Twopassworks w = Due.source("word " + term, "y:", "x:", "part 1", "z: stop", "want v", "want w");
            for (int i = 0; i < 10; i++) {
                again(w, 4, 3);
            }
            Due.same("assemble() of " + term, 0, w.assemble());
            Due.same("its number", 0, w.ofFlat(0, 10));
            Due.same("its BASE", -1, w.ofFlat(0, 11));
            callAgain(w, 1, "word %1+z");
            Due.same("assemble() with z behind", 0, w.assemble());
            Due.same("its BASE then", 1, w.ofFlat(0, 11));
            callAgain(w, 1, "word z+%1");
            Due.same("assemble() with z ahead", 11, w.assemble());
            Due.same("BASE", "11 0 6", fault(w));
        }
    }

    /** What an argument goes on with may just reach 65535 and -65535, from the one to the other, too. */
    private static void sumsAtTheBounds() {
        String[] arguments = {"-65535+65535+65535-65535+0", "+65535-65535-65535+65535+0",
            "+65535-1-65534-65535+65534+1+0", "-65535+65535+65535-65534-1+0", "+65535+65535-65535-65535+0",
            "-65535-65535+65535+65535+0", "+1-1+65535-65535-65535+65535"};
        for (String argument : arguments) {
            for (String first : new String[] {"0", "1", "-1", "65535", "-65535", "65534", "-65534"}) {
                for (int times = 1; times <= 4; times++) {
                    Twopassworks w = Due.source("m: macro", "x: let " + first + "%1".repeat(times), "end",
                        "m " + argument);
                    w.assemble();
                    String got = w.fault(0) == 0 ? "number " + w.ofFlat(0, 10) : fault(w);
                    String due = sum("x: let ", first + argument.repeat(times));
                    Due.same(first + " and " + argument + " " + times, due, got);
                }
            }
        }
    }

    /** The number of a sum, or the fault of the line 1 that it is. */
    private static String sum(String head, String terms) {
        int sum = 0;
        int at = 0;
        while (at < terms.length()) {
            boolean takes = terms.charAt(at) == '-';
            int from = takes || terms.charAt(at) == '+' ? at + 1 : at;
            int to = from;
            while (to < terms.length() && Character.isDigit(terms.charAt(to))) {
                to++;
            }
            int number = Integer.parseInt(terms.substring(from, to));
            sum += takes ? -number : number;
            if (sum < -65535 || sum > 65535) {
                return "12 1 " + (head.length() + at);
            }
            at = to;
        }
        return "number " + sum;
    }

    /** Arguments inside of arguments, a number ahead of each. */
    private static void oneInsideTheOther() {
        Twopassworks w = ones(8);
        for (int round = 0; round < 24; round++) {
            callAgain(w, 1, "word 1+2-%1");
        }
        Due.same("assemble()", 0, w.assemble());
        // 1+2-1+2-1 .. +2-0+1+0+1 ..
        Due.same("number", 3 + 23 + 256, w.ofFlat(0, 10));
        Due.same("text", "word " + "1+2-".repeat(24) + "0+1" + "+0+1".repeat(255), w.text(0));
    }

    private static int times(int number, int[] with) {
        int made = number;
        for (int i = 0; i < with.length && made <= 65535; i += 2) {
            made = made * with[i];
            made = made > 65535 ? made : made / with[i + 1];
        }
        return made;
    }

    /** What a PRODUCT becomes by 2^40 times the same: reckoned by what becomes of each number by 1, 2, 4 .. times. */
    private static void factors() {
        int[][] all = {{254, 255}, {255, 254}, {3, 2, 2, 3}, {1, 2, 2, 1}, {7, 8, 9, 8}, {257, 256}, {16, 17, 15, 14},
            {1, 65535}, {2, 3, 3, 2}, {0, 5}, {5, 7, 7, 5, 11, 13, 13, 11}};
        for (int[] with : all) {
            int[] due = new int[65536];
            for (int number = 0; number < due.length; number++) {
                due[number] = times(number, with);
            }
            for (int time = 0; time < 40; time++) {
                int[] twice = new int[65536];
                for (int number = 0; number < due.length; number++) {
                    twice[number] = due[number] > 65535 ? 65536 : due[due[number]];
                }
                due = twice;
            }
            StringBuilder term = new StringBuilder("word 1");
            for (int i = 0; i < with.length; i += 2) {
                term.append('*').append(with[i]).append('/').append(with[i + 1]);
            }
            for (int number : new int[] {0, 1, 3, 12, 17, 37, 51, 60, 100, 200, 250, 255, 4000, 21845, 65535}) {
                Twopassworks w = Due.source(term.toString());
                for (int round = 0; round < 10; round++) {
                    again(w, 4, 5);
                }
                callAgain(w, 1, "word " + number + "*%1");
                boolean stands = due[number] <= 65535;
                Due.same(number + " with " + term + " assemble()", stands ? 0 : 12, w.assemble());
                if (stands) {
                    Due.same(number + " with " + term, due[number], w.ofFlat(0, 10));
                }
            }
        }
    }

    private static void factorsThatFault() {
        Twopassworks w = Due.source("word 1*3/2");
        for (int round = 0; round < 10; round++) {
            again(w, 4, 5);
        }
        callAgain(w, 1, "word 20*%1");
        long number = 20;
        int places = 0;
        while (number * 3 <= 65535) {
            number = number * 3 / 2;
            places++;
        }
        Due.same("assemble()", 12, w.assemble());
        // each time "1*3/2*"
        Due.same("RANGE", "12 0 " + (5 + 3 + 6 * places + 1), fault(w));
        w = Due.source("word 1*1/1", "y: stop");
        for (int round = 0; round < 6; round++) {
            again(w, 4, 5);
        }
        callAgain(w, 1, "word y*%1");
        Due.same("assemble() of a label", 11, w.assemble());
        Due.same("BASE", "11 0 6", fault(w));
        callAgain(w, 1, "word 3*(%1)");
        Due.same("assemble() of it in parentheses", 11, w.assemble());
        Due.same("BASE there", "11 0 9", fault(w));
        w = Due.source("word 1*1/1", "y: stop");
        for (int round = 0; round < 6; round++) {
            again(w, 4, 5);
        }
        callAgain(w, 1, "word 7*%1*y");
        long length = 5 + 2 + 6L * (1 << 24) - 1;
        Due.same("assemble() of a label behind", 11, w.assemble());
        Due.same("BASE behind", "11 0 " + length, fault(w));
        callAgain(w, 1, "word 65535+%1");
        Due.same("assemble()", 11, w.assemble());
        Due.same("the sum comes behind the PRODUCT", "11 0 " + (length + 6), fault(w));
    }
}
