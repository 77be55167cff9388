import java.util.ArrayList;
import java.util.List;

/** The boundary cases of sections 2 and 3: rows, words, EXPRESSIONS, what is KNOWN, BLOCKS, BODIES, EXPANSIONS. */
public final class RowBoundsTest {
    private static final String[] MAY_HAVE_LABEL = {"byte 1", "word 1", "room 1", "jump 1", "call 1", "load 1",
        "load =1", "stop"};
    private static final String[] NO_LABEL = {"part 0", "from 0", "align 1", "share a", "want b", "weak a", "end",
        "repeat 1", "if 1", "else"};
    private static final String[] ONE_EXPRESSION = {"room", "part", "from", "align", "repeat", "if", "jump", "call"};
    private static final String[] ONE_NAME = {"share", "want", "weak"};
    private static final String[] KNOWN_ALONE = {"room", "part", "from", "align", "repeat", "if"};

    public static void main(String[] args) {
        firstFault();
        nothingLeft();
        parameters();
        nextLines();
        notANameOrUnknown();
        labels();
        howMany();
        oneName();
        cannotStandThere();
        insideEachOther();
        known();
        knownByLet();
        ranges();
        flatLines();
        partOfAPartLine();
        missingEnds();
        whatCounts();
        endAndElse();
        macros();
        arguments();
        repeats();
        conditions();
        fourBodies();
        sixtyExpansions();
        madeReady();
        Due.end();
    }

    private static void fault(String due, String... texts) {
        Due.same("fault of " + String.join("|", texts), due, Due.faultOf(texts));
    }

    private static void right(String... texts) {
        fault("0 -1 0", texts);
    }

    private static void flat(String due, String... texts) {
        Due.same("FLAT lines of " + String.join("|", texts), due, Due.flatOf(texts));
    }

    private static String[] with(String[] texts, String... others) {
        List<String> all = new ArrayList<>(List.of(texts));
        all.addAll(List.of(others));
        return all.toArray(new String[0]);
    }

    private static String[] times(int count, String... texts) {
        List<String> all = new ArrayList<>();
        for (int i = 0; i < count; i++) {
            all.addAll(List.of(texts));
        }
        return all.toArray(new String[0]);
    }

    /** "the first fault met ends it"; 0, NONE, 0 without one. */
    private static void firstFault() {
        right();
        right("stop");
        fault("4 0 0", "foo", "bar");
        fault("3 1 0", "stop", "5", "foo");
        fault("10 1 5", "word b", "room b");
        fault("8 1 0", "a:", "a:", "word b");
        Twopassworks w = Due.source("foo");
        Due.same("a fault", 4, w.assemble());
        w.cut(0);
        Due.same("an empty SOURCE has none", 0, w.assemble());
        Due.same("FAULT", "0 -1 0", w.fault(0) + " " + w.fault(1) + " " + w.fault(2));
    }

    /** "If nothing is left, no more is done." */
    private static void nothingLeft() {
        flat("", "", "   ", ";", " ; x");
        flat("a:", "a: ; x");
        fault("3 0 0", ":;x");
    }

    /** "With a PARAMETER: ARGUMENT at the first one", ahead of what else is wrong in the row. */
    private static void parameters() {
        fault("16 0 0", "%1");
        fault("16 0 0", "%3:");
        fault("16 0 2", "5 %2");
        fault("16 0 3", "a: %1 %2");
        fault("16 0 5", "(((((%1");
        right("stop ; %1");
        fault("3 0 5", "stop 5", "%1");
        fault("16 1 0", "stop", "%1", "5");
    }

    /** A row ends where its line ends, whatever the next one begins with. */
    private static void nextLines() {
        fault("4 0 0", "foo", ":");
        fault("3 0 4", "load", "=1");
        fault("3 1 0", "load 1", "=1");
        fault("3 0 4", "word", "1");
        fault("3 1 0", "word 1", ",2");
        fault("3 1 0", "word 1", "+2");
        fault("3 0 7", "word 1+", "2");
        fault("3 0 7", "word (1", ")");
        fault("3 0 5", "share", "a");
        fault("4 1 0", "stop", "a");
        fault("16 1 0", "stop", "%1");
        flat("", "m: macro", "end", "m", ";", "m ; a");
        fault("16 1 5", "m: macro", "byte %1", "end", "m", "%1");
    }

    /** "must be a NAME, otherwise LINE there; if it is none of the words below and no macro: ORDER there." */
    private static void notANameOrUnknown() {
        for (String text : new String[] {"5", "+", "(", ")", ",", "=", ".", ":"}) {
            fault("3 0 0", text);
            fault("3 0 3", "a: " + text);
        }
        fault("4 0 0", "a");
        fault("4 0 3", "a: b");
        fault("4 0 0", "bytes 1");
        fault("4 0 0", "byt 1");
        fault("4 0 0", "m", "m: macro", "end");
        right("m: macro", "end", "m");
        fault("4 2 0", "m: macro", "end", "mm");
        fault("4 2 0", "mm: macro", "end", "m");
        fault("4 4 0", "if 0", "m: macro", "end", "end", "m");
        right("if 1", "m: macro", "end", "end", "m");
        fault("4 0 5", "@x: foo");
        right("@m: macro", "end", "m_0");
    }

    /** Where a LABEL may stand, must stand and must not: LINE at the ORDER WORD or at column 0, looked at first. */
    private static void labels() {
        for (String text : MAY_HAVE_LABEL) {
            right("a: " + text);
            right(text);
        }
        for (String text : NO_LABEL) {
            fault("3 0 0", "a: " + text);
            fault("3 0 0", "a: " + text + " ,,((((1");
        }
        fault("3 0 0", "let 1");
        fault("3 0 0", "let ,");
        fault("3 0 0", "macro");
        fault("3 0 0", "macro 1");
        right("a: let 1");
        right("a: macro", "end");
        flat("a:|b:", "m: macro", "b:", "end", "a: m");
        flat("a:", "m: macro", "end", "a: m");
    }

    /** "byte, word: one to three EXPRESSIONS .. room, part, ..: one. load: one, or "=" and one. stop ..: nothing." */
    private static void howMany() {
        for (String word : new String[] {"byte", "word"}) {
            fault("3 0 4", word);
            right(word + " 1");
            right(word + " 1,2");
            right(word + " 1,2,3");
            fault("3 0 12", word + " 1,2,3,4");
            fault("3 0 12", word + " 1,2,3,");
            fault("3 0 7", word + " 1,");
            fault("3 0 8", word + " 1,,2");
            fault("3 0 5", word + " ,1");
        }
        for (String word : ONE_EXPRESSION) {
            int size = word.length();
            fault("3 0 " + size, word);
            fault("3 0 " + (size + 2), word + " 1,2");
            fault("3 0 " + (size + 2), word + " 1,");
            fault("3 0 " + (size + 3), word + " 1 2");
            fault("3 0 " + (size + 1), word + " =1");
            String[] one = {word + " 1"};
            if (word.equals("repeat") || word.equals("if")) {
                one = with(one, "end");
            }
            right(one);
        }
        fault("3 0 6", "a: let");
        fault("3 0 8", "a: let 1,2");
        fault("3 0 7", "a: let =2");
        fault("3 0 4", "load");
        fault("3 0 6", "load =");
        fault("3 0 6", "load ==1");
        fault("3 0 6", "load 1,2");
        fault("3 0 7", "load =1,2");
        fault("3 0 6", "load 1=");
        for (String more : new String[] {"1", "a", ".", "(", ",", "="}) {
            fault("3 0 5", "stop " + more);
            fault("3 0 4", "end " + more);
            fault("3 0 5", "else " + more);
            fault("3 0 9", "a: macro " + more, "end");
        }
    }

    /** "share, want, weak: one NAME." */
    private static void oneName() {
        for (String word : ONE_NAME) {
            int size = word.length();
            fault("3 0 " + size, word);
            for (String text : new String[] {"5", ".", "(a)", "-a", ",", "=a"}) {
                fault("3 0 " + (size + 1), word + " " + text);
            }
            fault("3 0 " + (size + 3), word + " a b");
            fault("3 0 " + (size + 2), word + " a,b");
            fault("3 0 " + (size + 2), word + " a+1");
            right(word + (word.equals("want") ? " b" : " a"), "a:");
        }
        right("weak byte", "share word", "want room", "word: stop");
    }

    /** "Where a row does not go on so: LINE at the first TOKEN that cannot stand there, or at END." */
    private static void cannotStandThere() {
        for (String text : new String[] {")", "+1", "*1", "/1", ",1", "=1"}) {
            fault("3 0 5", "word " + text);
        }
        for (String begin : new String[] {"1+", "1-", "1*", "1/", "(", "-"}) {
            int at = 5 + begin.length();
            fault("3 0 " + at, "word " + begin);
            for (String text : new String[] {")", "+1", "*1", "/1", ",1", ":1", "=1"}) {
                fault("3 0 " + at, "word " + begin + text);
            }
        }
        for (String factor : new String[] {"1", "a", ".", "(1)", "-1"}) {
            int at = 5 + factor.length();
            for (String text : new String[] {".", "(", ":", "=", ")"}) {
                fault("3 0 " + at, "word " + factor + text);
            }
        }
        for (String factor : new String[] {"1", "a", "-1"}) {
            fault("3 0 " + (6 + factor.length()), "word " + factor + " 7");
            fault("3 0 " + (6 + factor.length()), "word " + factor + " b");
        }
        fault("3 0 6", "word . 7");
        fault("3 0 8", "word (1) b");
        fault("3 0 7", "word (1,2)");
        fault("3 0 7", "word (1");
        fault("3 0 9", "word ((1)");
        fault("3 0 8", "word (1))");
        fault("3 0 8", "word (1)(2)");
        fault("3 0 7", "word (1=");
    }

    /** "Such "(" and "-" may stand three inside each other: DEEP at a fourth one"; the leftmost of LINE and DEEP. */
    private static void insideEachOther() {
        right("word (((1)))");
        fault("6 0 8", "word ((((1))))");
        right("word ---1");
        fault("6 0 8", "word ----1");
        right("word (-(1))");
        right("word -(-1)");
        right("word (--1)");
        fault("6 0 8", "word (-(-1))");
        fault("6 0 8", "word -(-(1))");
        fault("6 0 8", "word (---1)");
        fault("6 0 8", "word ---(1)");
        right("word 1-(((1)))");
        fault("6 0 10", "word 1-((((1))))");
        right("word 1----1");
        fault("6 0 10", "word 1-----1");
        right("word (((1)))+(((1)))", "word (((1))),(((1))),(((1)))");
        fault("6 0 16", "word (((1)))+((((1))))");
        right("word -1*-1*-1*-1", "word -(1)-(1)-(1)-(1)", "word (-1)+(-1)", "word (((1)+1)+1)");
        right("word ((1+(2)))-((1)+(-2))");
        fault("6 0 10", "word ((1+((2))))");
        fault("6 0 9", "load =((((1))))");
        fault("6 0 10", "a: let ((((1))))");
        for (String word : ONE_EXPRESSION) {
            fault("6 0 " + (word.length() + 4), word + " ((((b))))");
        }
        fault("6 0 11", "byte 1,((((1))))");
        fault("3 0 5", "word )((((1");
        fault("3 0 7", "word (()((((1");
        fault("3 0 9", "word (((1(");
        fault("3 0 8", "word (((");
        fault("6 0 8", "word ((((");
        fault("6 0 8", "word ((((1,,");
        fault("6 0 8", "word (((-");
        fault("3 0 12", "byte 1,2,3,((((1");
    }

    /** "must have such ones alone: KNOWN at the first NAME or point that is not (as it is reckoned)". */
    private static void known() {
        for (String word : KNOWN_ALONE) {
            int size = word.length() + 1;
            fault("10 0 " + size, word + " a");
            fault("10 0 " + size, word + " .");
            fault("10 1 " + size, "a: stop", word + " a");
            fault("10 1 " + size, "want a", word + " a");
            fault("10 1 " + size, "weak a", word + " a");
            fault("10 1 " + size, "a: let .", word + " a");
            fault("10 0 " + size, word + " a", "a: let 1");
            fault("13 0 " + (size + 1), word + " 1/0");
            fault("12 0 " + (size + 5), word + " 65535+1");
            fault("3 0 " + (size + 1), word + " a,");
            String[] texts = {"a: let 1", word + " a"};
            right(word.equals("repeat") || word.equals("if") ? with(texts, "end") : texts);
        }
        fault("10 0 5", "room a+b");
        fault("10 0 9", "room (1)+b");
        fault("10 0 7", "room 1+a*b");
        fault("10 0 7", "room 1*.");
        fault("10 0 6", "room -.");
        fault("10 0 5", "room a+1/0");
        fault("13 0 6", "room 1/0+a");
        fault("10 0 7", "room 0*a");
        fault("12 0 10", "room 65535+1+a");
        fault("10 0 13", "room 65535+1*a");
        fault("6 0 8", "room ((((a))))");
    }

    /** KNOWN "from the FLAT line on in which let gives it" such an EXPRESSION; "just the first let .. counts". */
    private static void knownByLet() {
        right("a: let 2", "room a");
        right("a: let 2", "b: let a*a", "room b");
        fault("10 0 5", "room a", "a: let 2");
        fault("10 1 5", "a: let a", "room a");
        fault("10 2 5", "a: let b", "b: let 1", "room a");
        right("b: let 1", "a: let b", "room a");
        fault("10 1 5", "a: let 1/0", "room a");
        fault("10 1 5", "a: let 65535+1", "room a");
        fault("10 1 5", "a: let 1/0", "room a", "foo");
        right("a: let -65535", "b: let a+65535", "room b");
        fault("10 2 5", "a: let b", "a: let 1", "room a");
        fault("8 1 0", "a: let 2", "a: let b", "room a");
        fault("8 1 0", "a: let 2", "a: let 50", "room a");
        fault("12 2 5", "a: let 50", "a: let 2", "room a");
        fault("10 3 5", "if 0", "a: let 1", "end", "room a");
        right("if 1", "a: let 1", "end", "room a");
        right("@a: let 1", "room a_0");
        fault("10 1 5", "@a: let 1", "room a");
    }

    private static void range(String word, int least, int most) {
        int size = word.length() + 1;
        String[] end = word.equals("repeat") ? new String[] {"end"} : new String[0];
        fault("12 0 " + size, with(new String[] {word + " " + (least - 1)}, end));
        right(with(new String[] {word + " " + least}, end));
        right(with(new String[] {word + " " + most}, end));
        fault("12 0 " + size, with(new String[] {word + " " + (most + 1)}, end));
        fault("12 0 " + size, with(new String[] {word + " -65535"}, end));
        fault("12 0 " + size, with(new String[] {word + " 65535"}, end));
        fault("12 0 " + size, with(new String[] {word + " (" + most + ")+1"}, end));
    }

    /** "room 0 to 40, part 0 to 3, from 0 to 500, align 1, 2, 4, 8 or 16, repeat 0 to 5: otherwise RANGE". */
    private static void ranges() {
        range("room", 0, 40);
        range("part", 0, 3);
        range("from", 0, 500);
        range("repeat", 0, 5);
        for (int i = -17; i <= 33; i++) {
            boolean may = i == 1 || i == 2 || i == 4 || i == 8 || i == 16;
            fault(may ? "0 -1 0" : "12 0 6", "align " + i);
        }
        fault("12 0 6", "align 32768");
        fault("12 0 6", "align -32768");
        for (String number : new String[] {"0", "1", "-1", "65535", "-65535"}) {
            right("if " + number, "end");
        }
        fault("12 0 8", "a: room 41");
        fault("12 0 5", "room (41)");
        fault("12 0 7", "repeat 6");
        fault("12 0 7", "repeat -1");
    }

    /** "each FLAT line .. with 120 there: LONG at column 0", "once the row has been found right". */
    private static void flatLines() {
        String[] full = {"repeat 5", "repeat 4", "room 1", "stop", "stop", "stop", "weak a", "weak b", "end", "end"};
        right(full);
        Due.same("120 FLAT lines", 120, Due.assembled(full).flatLines());
        String[] more = {"byte 1", "word 1", "room 1", "jump 1", "call 1", "load 1", "load =1", "stop", "a: let 1",
            "part 0", "from 0", "align 1", "share a", "want c", "weak a", "a:", "a: stop"};
        for (String text : more) {
            fault("7 10 0", with(full, text));
            fault("7 11 0", with(full, "", text, "foo"));
        }
        fault("12 10 5", with(full, "room 41"));
        fault("3 10 5", with(full, "stop 1"));
        fault("10 10 5", with(full, "room a"));
        right(with(full, "", ";", "if 1", "end", "repeat 5", "end", "m: macro", "stop", "end"));
        right(with(full, "m: macro", "end", "m"));
        fault("7 12 0", with(full, "m: macro", "end", "a: m"));
        fault("3 12 4", with(full, "m: macro", "end", "m 1,"));
        fault("3 12 7", with(full, "m: macro", "end", "a: m 1,"));
        fault("7 11 0", with(full, "m: macro", "stop", "end", "m"));
        right(with(times(119, "stop"), "a: stop"));
        fault("7 118 0", with(times(114, "stop"), "repeat 5", "stop", "end", "stop", "a: stop"));
        right(with(times(114, "stop"), "repeat 5", "stop", "end", "a: stop"));
    }

    /** "A part line is itself of the PART that it tells, as are those that follow"; "0 at first". */
    private static void partOfAPartLine() {
        Twopassworks w = Due.assembled("a:", "part 3", "b:", "part 3-3", "c: let 1", "if 1", "part 1", "end", "d:");
        int[] parts = {0, 3, 3, 0, 0, 1, 1};
        Due.same("FLAT lines", parts.length, w.flatLines());
        for (int i = 0; i < parts.length; i++) {
            Due.same("PART of " + i, parts[i], w.ofFlat(i, 3));
        }
        fault("12 0 5", "part 4", "stop");
    }

    /** "if there is none: BLOCK at the ORDER WORD", "once the word's own row has been found right". */
    private static void missingEnds() {
        fault("5 0 0", "if 1");
        fault("5 0 0", "if 0");
        fault("5 0 0", "repeat 0");
        fault("5 0 3", "m: macro");
        fault("5 0 5", "@m: macro", "stop");
        fault("3 0 4", "if 1,");
        fault("10 0 3", "if a");
        fault("13 0 4", "if 1/0");
        fault("12 0 7", "repeat 6");
        fault("3 0 9", "m: macro 1");
        fault("5 0 0", "if 1", "if 1", "end");
        fault("5 0 0", "repeat 1", "foo");
        // The end must stand in the same row of rows.
        fault("5 1 0", "m: macro", "%1", "end", "m if 1", "end");
    }

    /** What counts as one more open or one fewer: the ORDER WORD alone, "TOKENS are as they are now". */
    private static void whatCounts() {
        for (String text : new String[] {"end", "a: end 5", "@x: end", "%1: end", "end , (", "end:end"}) {
            right("if 0", text);
        }
        for (String text : new String[] {"end: stop", "%1", "@end", "stop end", "5 end", "; end", "ends", "(end)"}) {
            fault("5 0 0", "if 0", text);
            right("if 0", text, "end");
        }
        for (String text : new String[] {"macro", "x: macro", "x: repeat", "%1: if ((((", "repeat ; 1", "@a: if"}) {
            fault("5 0 0", "if 0", text, "end");
            right("if 0", text, "end", "end");
        }
        for (String text : new String[] {"if: stop", "stop if", "%1 if", "@if", "iff", "; if", "macro:", "else"}) {
            right("if 0", text, "end");
        }
        fault("5 3 0", "m: macro", "if 0", "%1", "end", "end", "m end");
        right("m: macro", "if 0", "%1", "end", "end", "m stop");
        fault("5 1 0", "m: macro", "if 0", "%1", "end", "end", "m if 1");
    }

    /** "An end or else that is HANDLED itself: BLOCK at it (once its row has been found right)." */
    private static void endAndElse() {
        fault("5 0 0", "end");
        fault("5 0 0", "else");
        fault("3 0 4", "end 1");
        fault("3 0 5", "else 1");
        fault("3 0 0", "a: end");
        fault("3 0 0", "a: else");
        fault("5 2 0", "if 1", "end", "end");
        fault("5 0 0", "end", "end");
        fault("5 0 0", "else", "end");
        fault("5 0 0", "end", "if 1", "end");
        fault("5 1 0", "repeat 1", "else", "end");
        fault("5 1 0", "m: macro", "else", "end", "m");
        fault("5 3 0", "if 0", "else", "stop", "else", "end");
        flat("stop", "if 1", "stop", "else", "foo", "else", "end");
        right("repeat 0", "else", "end");
    }

    /** "with a macro of that NAME: TWICE at column 0; then, if a row inside has the ORDER WORD macro: BLOCK there". */
    private static void macros() {
        right("m: macro", "end", "n: macro", "end");
        fault("8 2 0", "m: macro", "end", "m: macro", "end");
        fault("5 2 3", "m: macro", "end", "m: macro");
        fault("8 2 0", "m: macro", "end", "m: macro", "n: macro", "end", "end");
        fault("5 1 3", "m: macro", "n: macro", "end", "end");
        fault("5 2 3", "m: macro", "if 0", "n: macro", "end", "p: macro", "end", "end", "end");
        fault("5 1 0", "m: macro", "macro", "end", "end");
        fault("5 1 4", "m: macro", "@n: macro", "end", "end");
        fault("5 2 5", "repeat 1", "m: macro", "@n: macro", "end", "end", "end");
        right("m: macro", "end", "m");
        right("m: macro", "foo", "%1", "@x: 5", "stop 1", "end");
        right("m: macro", "macro: stop", "end");
        flat("stop", "stop: macro", "foo", "end", "stop");
        Due.same("macros that are never called", 2, Due.assembled("stop: macro", "end", "m: macro", "end").image(8));
        Due.same("no macros", 0, Due.assembled("stop").image(8));
    }

    /** "0 to 3 arguments .. LINE at a "," or END where an argument is empty, and at the first TOKEN of a fourth". */
    private static void arguments() {
        String[][] due = {
            // fault, call
            {"0 -1 0", "m"}, {"0 -1 0", "m 1"}, {"0 -1 0", "m 1,2"}, {"0 -1 0", "m 1,2,3"}, {"3 2 11", "m 1,2,3,4"},
            {"3 2 2", "m ,"}, {"3 2 2", "m ,1"}, {"3 2 4", "m 1,"}, {"3 2 5", "m 1,,2"}, {"3 2 7", "m 1,2,"},
            {"3 2 8", "m 1,2,,3"}, {"3 2 10", "m 1,2,3,"}, {"3 2 11", "m 1,2,3,,"}, {"3 2 11", "m 1,2,3,(4"}};
        for (String[] row : due) {
            fault(row[0], "m: macro", "end", row[1]);
        }
        right("m: macro", "end", "m ; ,");
        fault("3 2 5", "m: macro", "end", "a: m ,");
        flat("word (1)", "m: macro", "word %1)", "end", "m (1,2)");
        flat("byte 1, 2", "m: macro", "%1 %2,%3", "end", "m byte,1,2");
        // ARGUMENT, if there is no such one, at its COLUMN in the row as it stood.
        fault("16 1 5", "m: macro", "byte %1", "end", "m");
        fault("16 1 5", "m: macro", "byte %2", "end", "m 1");
        fault("16 1 5", "m: macro", "byte %3", "end", "m 1,2");
        flat("byte 3", "m: macro", "byte %3", "end", "m 1,2,3");
        fault("16 1 13", "m: macro", "@x: byte %1,%2", "end", "m 12345");
    }

    /** "repeat: its BODY is HANDLED so many times, each a new EXPANSION." */
    private static void repeats() {
        flat("", "repeat 0", "foo", "%1", "end");
        flat("x_1:", "repeat 1", "@x:", "end");
        flat("x_1:|x_2:|x_3:|x_4:|x_5:", "repeat 5", "@x:", "end");
        Due.same("EXPANSIONS of repeat 0", 0, Due.assembled("repeat 0", "end").image(7));
        Due.same("EXPANSIONS of repeat 5", 5, Due.assembled("repeat 5", "end").image(7));
        Due.same("EXPANSIONS of if", 0, Due.assembled("if 1", "end", "if 0", "end").image(7));
        Due.same("EXPANSIONS of a call", 1, Due.assembled("m: macro", "end", "m").image(7));
        Due.same("EXPANSIONS without a call", 0, Due.assembled("m: macro", "end").image(7));
        fault("8 1 0", "repeat 2", "m: macro", "end", "end");
        right("repeat 1", "m: macro", "end", "end");
        right("repeat 5", "@m: macro", "end", "end");
    }

    /** "the rows ahead of it (or all), if the value is not 0, otherwise those behind it (or none)". */
    private static void conditions() {
        flat("stop", "if 1", "stop", "end");
        flat("stop", "if -1", "stop", "end");
        flat("", "if 0", "stop", "end");
        flat("stop", "if 1", "stop", "else", "foo", "end");
        flat("stop", "if 0", "foo", "else", "stop", "end");
        flat("", "if 1", "else", "foo", "end");
        flat("", "if 0", "foo", "else", "end");
        flat("", "if 1", "end", "if 0", "end", "if 0", "else", "end");
        flat("stop", "if 0", "foo", "a: else 5", "stop", "end");
        flat("stop", "if 0", "if 0", "else", "foo", "end", "else", "stop", "end");
        flat("stop", "if 0", "macro", "else", "foo", "end", "else", "stop", "end");
        flat("stop", "if 0", "repeat 9", "else", "end", "else", "stop", "end");
        flat("stop", "m: macro", "if 0", "foo", "%1", "stop", "end", "end", "m else");
        flat("x_0:", "if 1", "@x:", "end");
        flat("x_1:", "repeat 1", "if 1", "@x:", "end", "end");
    }

    private static String[] inside(String[] begins, String... texts) {
        List<String> all = new ArrayList<>(List.of(begins));
        all.addAll(List.of(texts));
        for (int i = 0; i < begins.length; i++) {
            all.add("end");
        }
        return all.toArray(new String[0]);
    }

    /** "if four BODIES are being HANDLED already, inside each other: .. DEEP at the ORDER WORD". */
    private static void fourBodies() {
        String[][] four = {{"if 1", "if 1", "if 1", "if 1"}, {"repeat 1", "repeat 1", "repeat 1", "repeat 1"},
            {"if 1", "repeat 1", "if 1", "repeat 1"}};
        for (String[] begins : four) {
            right(inside(begins, "stop"));
            right(inside(begins, "repeat 0", "end"));
            right(inside(begins, "m: macro", "end"));
            fault("6 4 0", inside(begins, "if 1", "end"));
            fault("6 4 0", inside(begins, "if 0", "end"));
            fault("6 4 0", inside(begins, "repeat 1", "end"));
            fault("6 6 0", inside(begins, "m: macro", "end", "m"));
            fault("6 6 3", inside(begins, "m: macro", "end", "a: m"));
            fault("3 6 4", inside(begins, "m: macro", "end", "m 1,"));
            fault("12 4 7", inside(begins, "repeat 6", "end"));
        }
        // Behind a BODY there is room again.
        right("if 1", "if 1", "if 1", "if 1", "end", "if 1", "end", "end", "if 1", "if 1", "end", "end", "end", "end");
        right("repeat 5", "if 1", "repeat 5", "if 1", "end", "end", "end", "end");
        fault("6 1 0", "m: macro", "m", "end", "m");
        fault("6 1 5", "m: macro", "@a: m", "end", "m");
        String[] chain = {"m: macro", "stop", "end", "n: macro", "m", "end", "o: macro", "n", "end", "p: macro", "o",
            "end", "q: macro", "p", "end"};
        flat("stop", with(chain, "p"));
        fault("6 4 0", with(chain, "q"));
        // DEEP comes ahead of ARGUMENT, and behind the LABEL's FLAT line.
        chain[1] = "byte %1";
        fault("16 1 5", with(chain, "p"));
        fault("6 4 0", with(chain, "q"));
    }

    /** "or the number of its EXPANSION would be above 60: DEEP at the ORDER WORD". */
    private static void sixtyExpansions() {
        String[] thirty = {"repeat 5", "repeat 5", "end", "end"};
        String[] sixty = with(thirty, thirty);
        String[] macro = {"m: macro", "end"};
        right(sixty);
        Due.same("EXPANSIONS", 60, Due.assembled(sixty).image(7));
        right(with(sixty, "if 1", "end", "repeat 0", "end"));
        right(with(with(macro, sixty), "n: macro", "end"));
        fault("6 8 0", with(sixty, "repeat 1", "end"));
        fault("6 10 0", with(with(macro, sixty), "m"));
        fault("6 10 3", with(with(macro, sixty), "a: m"));
        fault("3 10 4", with(with(macro, sixty), "m 1,"));
        String[] most = with(thirty, "repeat 5", "repeat 4", "end", "end", "repeat 3", "end");
        Due.same("EXPANSIONS", 58, Due.assembled(most).image(7));
        right(with(most, "repeat 2", "end"));
        fault("6 10 0", with(most, "repeat 3", "end"));
        fault("4 11 0", with(most, "repeat 3", "foo", "end"));
        Twopassworks w = Due.assembled(with(most, "repeat 2", "@x: stop", "end"));
        Due.same("the 60th EXPANSION", "x_60: stop", w.flat(1));
        Due.same("its number", 60, w.ofFlat(1, 1));
    }

    /** "all its rows, one after the other, also what is in BLOCKS inside, are made ready", but with if. */
    private static void madeReady() {
        fault("16 2 5", "m: macro", "foo", "byte %1", "end", "m");
        fault("16 2 5", "m: macro", "if 0", "byte %1", "end", "end", "m");
        fault("16 1 5", "m: macro", "byte %1", "byte %2", "end", "m");
        right("repeat 1", "if 0", "byte %1", "end", "end");
        right("if 1", "if 0", "byte %1", "end", "end");
        fault("16 1 5", "repeat 1", "byte %1", "end");
        flat("word x_1, x_2|weak x_1|weak x_2", "m: macro", "word %1,@x", "end", "repeat 1", "m @x", "end",
            "weak x_1", "weak x_2");
        flat("x_0:|jump x_0", "m: macro", "jump %1", "end", "@x:", "m @x");
        flat("x_1:|jump x_1|x_1_:", "repeat 1", "@x:", "repeat 1", "jump @x", "end", "end", "x_1_:");
        flat("n_1: stop|word n_1", "m: macro", "@n: stop", "word %1", "end", "m n_1");
    }
}
