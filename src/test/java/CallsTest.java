import java.util.ArrayList;
import java.util.Arrays;
import java.util.List;
import java.util.Random;

/**
 * Made runs of calls in which macros, flatten(), rub() and tidy() bring long texts, made by the program and by Plain:
 * both answer the same. The same number always brings the same run.
 */
public final class CallsTest {
    private static final int RUNS = 400;
    private static final int MOST_SIGNS = 80;
    // A longer text is not made longer still: Plain goes through it sign by sign.
    private static final int LONG = 8000;
    // Plain calls itself for each sign of an EXPRESSION.
    private static final long STACK = 1L << 30;
    private static final String NAME = "n".repeat(28);
    private static final String[] DEFINITIONS = {"weak a", "b: let 1", "weak cc", "want b2", "y: stop", "weak " + NAME};
    private static final String[] SIGNS = {"+", "-", "*", "+", "-", "+"};

    private final Random random;
    private final String name;
    private final Twopassworks works = new Twopassworks();
    private final Plain plain = new Plain();
    // Whether an argument goes on what stands ahead of it ("+1-1"), or stands between signs.
    private boolean goesOn;

    private CallsTest(long seed) {
        random = new Random(seed);
        name = "run " + seed;
    }

    public static void main(String[] args) throws InterruptedException {
        long from = args.length > 0 ? Long.parseLong(args[0]) : 0;
        long count = args.length > 1 ? Long.parseLong(args[1]) : RUNS;
        boolean[] ended = new boolean[1];
        Thread thread = new Thread(null, () -> {
            for (long seed = from; seed < from + count; seed++) {
                new CallsTest(seed).run();
            }
            ended[0] = true;
        }, "runs", STACK);
        thread.start();
        thread.join();
        Due.same("the runs came to their end", true, ended[0]);
        Due.end();
    }

    private void same(String what, Object want, Object got) {
        String due = String.valueOf(want);
        String its = String.valueOf(got);
        boolean isLong = due.length() + its.length() > LONG;
        if (isLong && !due.equals(its)) {
            due = due.length() + " signs, checksum " + due.hashCode();
            its = its.length() + " signs, checksum " + its.hashCode();
        }
        Due.same(what + " of " + name, isLong && due.equals(its) ? "" : due, isLong && due.equals(its) ? "" : its);
    }

    private int below(int bound) {
        return random.nextInt(bound);
    }

    private boolean in100(int chances) {
        return below(100) < chances;
    }

    private String one(String... texts) {
        return texts[below(texts.length)];
    }

    private void run() {
        begin();
        if (in100(80)) {
            flatten();
        }
        for (int i = 4 + below(20); i > 0; i--) {
            if (plain.lines.isEmpty()) {
                begin();
            }
            step();
            all();
        }
        assemble();
        all();
    }

    // ---- texts

    private String term() {
        StringBuilder text = new StringBuilder();
        int count = 1 + below(9);
        for (int i = 0; i < count; i++) {
            text.append(i > 0 || goesOn ? one(SIGNS) : "");
            text.append(goesOn ? one("1", "0", "(1)", "b", "(0)", "-1", "(1-1)", "(b-1)", "-(1)", "(a-a)")
                : one("a", "1", "b", "0", "cc", "(1)", "(a-b)", "7", "-1", "100", "00", "y-y", NAME));
        }
        return in100(5) ? text + one(" ", " a", ":", "*", "(", " stop b c d e f g h") : text.toString();
    }

    private String handedOn(String between) {
        StringBuilder text = new StringBuilder();
        int count = 1 + below(in100(70) ? 5 : 11);
        for (int i = 0; i < count; i++) {
            text.append(i > 0 ? between : "");
            text.append(in100(97) ? "%1" : one("%2", "1", "a", "(%1)", "-%1", "%1%1", "@q", "b,%1"));
        }
        return text.toString();
    }

    private String head() {
        if (in100(12)) {
            return one("byte ", "load =", "load ", "call ", "jump ", "x: let ", "room ", "", "stop ", "a: word ", "weak ",
                "word -(", "word 3", "if ", "b2", "word 7*", "word 0*(");
        }
        return goesOn ? one("word 1", "word 0", "word a", "load =0") : "word ";
    }

    private void line(int at, String text) {
        if (plain.lines.size() < 120) {
            String cut = text.substring(0, Math.min(text.length(), MOST_SIGNS));
            Due.line(works, at, cut);
            plain.lines.add(at, cut);
        }
    }

    /** Macros m, n, o that hand their argument on, a call of the first one, and what the NAMES in it are. */
    private void begin() {
        String between = one("+", "-", "", "*", "+", ",", "+0+", "", "*", "+");
        goesOn = between.isEmpty();
        int levels = 1 + below(3);
        for (int level = 0; level < levels; level++) {
            line(plain.lines.size(), (char) ('m' + level) + ":macro");
            for (int i = in100(80) ? 1 : 2; i > 0; i--) {
                String first = level == levels - 1 ? head() : (char) ('n' + level) + " ";
                line(plain.lines.size(), first + handedOn(between));
            }
            line(plain.lines.size(), "end");
        }
        for (int i = in100(60) ? 1 : 2; i > 0; i--) {
            line(plain.lines.size(), "m " + term() + (in100(10) ? "," + term() : ""));
        }
        define();
    }

    private void define() {
        for (String text : DEFINITIONS) {
            if (in100(95) && !plain.lines.contains(text)) {
                line(in100(50) ? plain.lines.size() : 0, text);
            }
        }
    }

    // ---- calls

    private int longest() {
        int found = 0;
        for (int i = 0; i < plain.lines.size(); i++) {
            found = plain.lines.get(i).length() > plain.lines.get(found).length() ? i : found;
        }
        return found;
    }

    private void step() {
        int at = in100(70) ? longest() : below(plain.lines.size());
        switch (below(12)) {
            case 0:
                flatten();
                break;
            case 1:
                assemble();
                break;
            case 2:
            case 3:
            case 4:
                rubSome(at);
                break;
            case 5:
                same("tidy()", plain.tidy(), works.tidy());
                break;
            case 6:
                change(at);
                break;
            case 7:
                trial(at);
                break;
            default:
                again(longest());
                break;
        }
    }

    private void assemble() {
        same("assemble()", plain.assemble(), works.assemble());
        mend();
    }

    private void flatten() {
        same("flatten()", plain.flatten(), works.flatten());
        mend();
    }

    /** Behind a fault most runs begin anew, or what is UNKNOWN gets a mark. */
    private void mend() {
        int[] fault = {works.fault(0), works.fault(1), works.fault(2)};
        same("FAULT", Arrays.toString(plain.fault), Arrays.toString(fault));
        if (fault[0] == 9 && fault[1] >= 0) {
            String text = plain.lines.get(fault[1]);
            int end = Plain.wordEnd(text, Math.min(fault[2], text.length()));
            if (end > fault[2] && end - fault[2] < 60) {
                line(0, one("weak ", "want ") + text.substring(fault[2], end));
            }
        } else if (fault[0] != 0 && in100(70)) {
            same("clear()", plain.lines.size(), works.clear());
            plain.lines.clear();
            begin();
        }
    }

    private void rub(int at, int column) {
        String text = plain.lines.get(at);
        same("rub()", (int) text.charAt(column), works.rub(at, column));
        plain.lines.set(at, text.substring(0, column) + text.substring(column + 1));
    }

    private int column(String text) {
        int from = below(in100(30) ? Math.min(text.length(), 8) : text.length());
        int sign = text.indexOf(one("+", "-", "*", " ", "(", ")", "a", "1"), from);
        return sign < 0 || in100(20) ? from : sign;
    }

    private void rubSome(int at) {
        for (int i = 1 + below(4); i > 0 && !plain.lines.get(at).isEmpty(); i--) {
            String text = plain.lines.get(at);
            int column = column(text);
            boolean ill = Plain.tokens(text.substring(0, column) + text.substring(column + 1)) < 0;
            if (!ill || in100(3)) {
                rub(at, column);
            }
        }
    }

    private void change(int at) {
        String text = plain.lines.get(at);
        if (text.length() < MOST_SIGNS && in100(50)) {
            int column = below(text.length() + 1);
            char sign = " a1+-*()".charAt(below(8));
            same("sign()", text.length() + 1, works.sign(at, column, sign));
            plain.lines.set(at, text.substring(0, column) + sign + text.substring(column));
        } else if (text.length() < MOST_SIGNS) {
            same("remark()", text.length() + 4, works.remark(at, 7));
            plain.lines.set(at, text + " ;r7");
        } else {
            int to = below(plain.lines.size());
            same("move()", Math.abs(at - to), works.move(at, to));
            plain.lines.add(to, plain.lines.remove(at));
        }
    }

    private void trial(int at) {
        int order = below(20);
        int shape = below(11);
        int x = 1000 + below(3);
        Twopassworks one = new Twopassworks();
        one.put(0, 0, order, shape, x, 7);
        same("trial()", plain.trial(at, one.text(0)), works.trial(at, 0, order, shape, x, 7));
    }

    /** What stands behind word, byte or weak becomes the argument of a macro, whose NAME is that word's last letter. */
    private void again(int at) {
        String text = plain.lines.get(at);
        if (text.length() > LONG || !text.matches("(?s)(word|byte|weak) .*")) {
            return;
        }
        for (int i = 0; i < 3; i++) {
            rub(at, 0);
        }
        String between = goesOn ? "" : one("+", "-", "*", "-(", ",");
        List<String> macro = new ArrayList<>();
        macro.add(text.charAt(3) + ": macro");
        macro.add(head() + (in100(50) ? "%1" + between + "%1" : handedOn(goesOn ? "" : one(SIGNS))));
        if (in100(20)) {
            macro.add(head() + "%1");
        }
        macro.add("end");
        for (int i = 0; i < macro.size(); i++) {
            line(i, macro.get(i));
        }
        flatten();
    }

    // ---- what is asked

    private void all() {
        for (int i = 0; i < plain.lines.size(); i++) {
            if (in100(40)) {
                lookAt(i);
            }
        }
        if (in100(40)) {
            same("digest()", plain.digest(), works.digest());
        }
        for (int i = 0; plain.image != null && i < plain.image.flats.size() && i < 4; i++) {
            same("row " + i, plain.image.listing(plain.image.flats.get(i)), works.row(i));
        }
    }

    private void lookAt(int at) {
        String text = plain.lines.get(at);
        int count = Plain.tokens(text);
        same("length " + at, text.length(), works.length(at));
        same("text " + at, text, works.text(at));
        same("form " + at, Plain.formOf(text), works.form(at));
        same("tokens " + at, count, works.tokens(at));
        for (int i = 0; i < 2 && !text.isEmpty(); i++) {
            int column = below(text.length());
            same("sign " + column + " of " + at, (int) text.charAt(column), works.signAt(at, column));
        }
        if (count > 0) {
            List<Plain.Tok> tokens = Plain.read(text, 0);
            int place = below(count);
            Plain.Tok token = tokens.get(place);
            same("kind of " + place, token.kind, works.token(at, place, 0));
            same("COLUMN of " + place, Plain.form(tokens, place), works.token(at, place, 1));
            same("length of " + place, token.text.length(), works.token(at, place, 2));
        }
    }
}
