import java.util.Arrays;
import java.util.Random;

/**
 * Made EXPRESSIONS that macros put together from arguments cut anywhere ("1)*2-(" for instance), again and again; the
 * program and Plain reckon the same, or meet the same fault at the same place. The same number brings the same one.
 */
public final class ReckonTest {
    private static final int MADE = 3000;
    private static final int MOST_SIGNS = 80;
    private static final int TRIES = 300;
    // Plain calls itself for each sign of an EXPRESSION.
    private static final long STACK = 1L << 30;
    private static final String[] DEFINITIONS = {"a: let 3", "b: let 0-2", "y: stop", "part 1", "x: stop", "z: stop",
        "part 0", "want w", "weak c", "want v"};

    private final Random random;
    private final String name;
    private final Twopassworks works = new Twopassworks();
    private final Plain plain = new Plain();
    private final boolean[] chances = new boolean[4];
    // What is open: "(" and "-", and whether a FACTOR must follow.
    private String open = "";
    private boolean wants = true;

    private ReckonTest(long seed) {
        random = new Random(seed);
        name = " of " + seed;
        for (int i = 0; i < chances.length; i++) {
            chances[i] = random.nextInt(3) > 0;
        }
    }

    public static void main(String[] args) throws InterruptedException {
        long from = args.length > 0 ? Long.parseLong(args[0]) : 0;
        long count = args.length > 1 ? Long.parseLong(args[1]) : MADE;
        boolean[] ended = new boolean[1];
        Thread thread = new Thread(null, () -> {
            for (long seed = from; seed < from + count; seed++) {
                new ReckonTest(seed).run();
            }
            ended[0] = true;
        }, "made", STACK);
        thread.start();
        thread.join();
        Due.same("all came to their end", true, ended[0]);
        Due.end();
    }

    private int below(int bound) {
        return random.nextInt(bound);
    }

    private String one(String... texts) {
        return texts[below(texts.length)];
    }

    // ---- EXPRESSIONS

    private String factor() {
        if (chances[0] && below(100) < 12) {
            return one("y", "y", "z", "z", "x", ".", "w", "v");
        }
        if (chances[1] && below(100) < 10) {
            return one("a", "b", "c", "65535", "300", "7", "d");
        }
        return one("1", "1", "0", "2", "1", "3", "1");
    }

    /** The next TOKEN, where one may stand. */
    private String next() {
        if (!wants) {
            if (open.contains("(") && below(3) == 0) {
                open = open.substring(0, open.lastIndexOf('('));
                isWhole();
                return ")";
            }
            wants = true;
            return chances[2] ? one("+", "-", "+", "-", "*", "/") : one("*", "/", "*", "*", "+");
        }
        if (open.length() < 3 && below(100) < (chances[3] ? 35 : 12)) {
            String sign = one("(", "(", "-");
            open += sign;
            return sign;
        }
        String factor = factor();
        isWhole();
        return factor;
    }

    private void isWhole() {
        wants = false;
        while (open.endsWith("-")) {
            open = open.substring(0, open.length() - 1);
        }
    }

    /** TOKENS behind which as much is open as ahead of them. */
    private String piece() {
        String openThen = open;
        boolean wantsThen = wants;
        for (int tries = 0; tries < TRIES; tries++) {
            StringBuilder text = new StringBuilder();
            for (int i = 1 + below(14); i > 0; i--) {
                text.append(next());
                if (open.equals(openThen) && wants == wantsThen && text.length() < 24 && below(3) > 0) {
                    return text.toString();
                }
            }
            open = openThen;
            wants = wantsThen;
        }
        return wants ? "1+" : "+1";
    }

    private String rest() {
        StringBuilder text = new StringBuilder();
        if (wants) {
            text.append(factor());
            isWhole();
        }
        while (!open.isEmpty()) {
            text.append(one(")", ")", ")*2", ")-1").charAt(0));
            open = open.substring(0, open.lastIndexOf('('));
            isWhole();
        }
        return text.append(one("", "", "+1", "*2", "-y", "/0")).toString();
    }

    /** Some PARAMETERS side by side. */
    private String some(int most) {
        StringBuilder text = new StringBuilder();
        for (int i = 1 + below(most); i > 0; i--) {
            text.append('%').append(1 + below(3));
        }
        return text.toString();
    }

    // ---- sources

    private void line(String text) {
        String cut = text.substring(0, Math.min(text.length(), MOST_SIGNS));
        Due.line(works, works.lines(), cut);
        plain.lines.add(cut);
    }

    private void run() {
        StringBuilder first = new StringBuilder();
        for (int i = below(6); i > 0; i--) {
            first.append(next());
        }
        String pieces = piece() + "," + piece() + "," + piece();
        int levels = 1 + below(4);
        for (int level = 0; level < levels; level++) {
            line((char) ('m' + level) + ": macro");
            if (level < levels - 1) {
                line((char) ('n' + level) + " " + some(5) + "," + some(5) + "," + some(5));
            } else {
                line("word " + first + some(below(3) == 0 ? 12 : 4) + rest());
            }
            line("end");
        }
        line("m " + pieces);
        for (String text : DEFINITIONS) {
            line(text);
        }
        for (int round = 0; round < 2; round++) {
            same("assemble()", plain.assemble(), works.assemble());
            same("FAULT", Arrays.toString(plain.fault),
                Arrays.toString(new int[] {works.fault(0), works.fault(1), works.fault(2)}));
            same("digest()", plain.digest(), works.digest());
            same("flatten()", plain.flatten(), works.flatten());
        }
    }

    private void same(String what, Object want, Object got) {
        Due.same(what + name, want, got);
    }
}
