import java.util.ArrayList;
import java.util.HashSet;
import java.util.List;
import java.util.Random;
import java.util.Set;
import java.util.TreeSet;

/** Makes sources of many kinds from a number; the same number always brings the same source. */
final class MadeSources {
    private static final String[] LOCALS = {"@x", "@y", "@z", "@u", "@v", "@w", "@r", "@s", "@t"};
    private static final String[] MACROS = {"m", "o", "p", "q"};
    private static final String[][] NAMES = {
        {"a", "b", "c", "d", "e", "f", "g", "h"}, {"a", "b", "c", "aa", "a_", "a1", "x_0", "x_1"},
        {"la", "lb", "lc", "ld", "le", "lf", "lg", "lh", "li", "lj", "lk", "ll", "lm", "ln", "lo", "lp"},
        {"a", "b", "c", "d"}};
    private static final int MOST = 118;

    private final Random random;
    private final String[] names;
    // Whether odd things are in it, which mostly bring a fault.
    private final boolean odd;
    private final List<String> all = new ArrayList<>();
    private final Set<String> macros = new HashSet<>();
    private boolean inMacro;
    private boolean inBody;
    private int labels;
    private int locals;

    private MadeSources(long seed) {
        random = new Random(seed);
        int mode = below(NAMES.length);
        names = NAMES[mode];
        odd = mode == NAMES.length - 1;
    }

    static List<String> of(long seed) {
        MadeSources made = new MadeSources(seed);
        made.make();
        return made.all;
    }

    private int below(int bound) {
        return random.nextInt(bound);
    }

    private boolean in100(int chances) {
        return below(100) < chances;
    }

    private String one(String... texts) {
        return texts[below(texts.length)];
    }

    private void make() {
        if (in100(70)) {
            all.add("k: let " + below(6));
        }
        if (in100(50)) {
            all.add("l: let k+" + below(3));
        }
        rows(0, 3 + below(in100(20) ? 80 : 25));
        if (in100(85)) {
            define();
        }
        while (all.size() > MOST) {
            all.remove(all.size() - 1);
        }
        for (int i = 0; i < all.size(); i++) {
            String text = spoil(all.get(i));
            all.set(i, text.substring(0, Math.min(text.length(), 80)));
        }
    }

    // ---- EXPRESSIONS

    private String name() {
        return inBody && in100(40) ? one(LOCALS) : one(names);
    }

    private String number() {
        switch (below(odd ? 9 : 6)) {
            case 0:
            case 1:
            case 2:
                return "" + below(10);
            case 3:
                return "" + below(300);
            case 4:
                return "$" + Integer.toHexString(below(64));
            case 5:
                return "" + below(4);
            case 6:
                return one("65535", "65534", "255", "256", "128", "129", "32768", "32769", "32767", "0");
            case 7:
                return "" + below(65536);
            default:
                return in100(10) ? one("65536", "$10000", "99999") : "0" + below(50);
        }
    }

    private String atom() {
        if (inMacro && in100(25)) {
            return "%" + (1 + below(odd ? 3 : 2));
        }
        int kind = below(10);
        return kind < 5 ? number() : kind < 9 ? name() : ".";
    }

    private String expression(int depth) {
        if (depth <= 0 || in100(45)) {
            return atom();
        }
        String left = expression(depth - 1);
        switch (below(8)) {
            case 0:
            case 1:
                return left + "+" + expression(depth - 1);
            case 2:
            case 3:
                return left + "-" + expression(depth - 1);
            case 4:
                return left + "*" + expression(depth - 1);
            case 5:
                return left + "/" + expression(depth - 1);
            case 6:
                return "(" + left + ")";
            default:
                return "-" + left;
        }
    }

    private String known() {
        if (inMacro && in100(30)) {
            return "%1";
        }
        if (in100(60)) {
            return "" + below(6);
        }
        if (in100(50)) {
            return one("k", "l") + one("", "+1", "-1", "*2", "/2", "/0");
        }
        return odd ? expression(2) : below(5) + "-" + below(3);
    }

    private String some(int most) {
        StringBuilder text = new StringBuilder(expression(below(4)));
        for (int i = below(most); i > 0; i--) {
            text.append(",").append(expression(below(3)));
        }
        return text.toString();
    }

    // ---- rows

    private String order() {
        int kind = below(25);
        if (kind < 3) {
            return "byte " + (in100(92) ? below(256) + (in100(50) ? "," + below(256) : "") : some(3));
        }
        if (kind < 6) {
            return "word " + some(3);
        }
        if (kind < 11) {
            return "jump " + (in100(80) ? name() : expression(2));
        }
        if (kind < 14) {
            return "load =" + expression(below(3));
        }
        switch (kind) {
            case 14:
                return "room " + (in100(60) ? "" + below(in100(50) ? 16 : 42) : known());
            case 15:
            case 16:
                return "call " + expression(below(3));
            case 17:
                return "load " + (in100(90) ? "" + below(256) : expression(2));
            case 18:
                return "part " + (in100(90) ? "" + below(4) : known());
            case 19:
                return in100(30) ? "from " + (in100(80) ? "" + below(502) : known()) : "stop";
            case 20:
                return "align " + (in100(80) ? one("1", "2", "4", "8", "16") : known());
            case 21:
                return one("share ", "weak ") + name();
            case 22:
                return "want " + (inBody ? LOCALS[locals++ % LOCALS.length] : name());
            default:
                return "stop";
        }
    }

    private static boolean mayHaveLabel(String order) {
        return order.matches("(byte|word|room|jump|call|load|stop).*");
    }

    private String label() {
        if (inBody && in100(97)) {
            return in100(50) ? "" : LOCALS[locals++ % LOCALS.length] + ": ";
        }
        if (labels < names.length) {
            return names[labels++] + ": ";
        }
        return in100(95) ? "" : name() + ": ";
    }

    private void rows(int depth, int count) {
        for (int i = 0; i < count && all.size() < MOST - 2; i++) {
            int kind = below(100);
            if (depth < 5 && kind < 6) {
                condition(depth);
            } else if (depth < 5 && kind < 11) {
                repeat(depth);
            } else if (depth < (odd ? 3 : 1) && kind < 16) {
                macro(depth);
            } else if (kind < 28 && !macros.isEmpty()) {
                all.add((in100(20) ? label() : "") + call());
            } else if (kind < 32) {
                String left = inBody ? LOCALS[locals++ % LOCALS.length]
                    : labels < names.length ? names[labels++] : one("k", "l", "a");
                all.add(left + ": let " + (in100(60) ? "" + below(20) : expression(2)));
            } else {
                String order = kind < 38 ? "" : order();
                String label = order.isEmpty() || mayHaveLabel(order) && in100(40) ? label() : "";
                all.add(label + order);
            }
        }
    }

    private void condition(int depth) {
        all.add("if " + known());
        rows(depth + 1, below(4));
        if (in100(40)) {
            all.add("else");
            rows(depth + 1, below(3));
        }
        if (in100(5)) {
            all.add("else");
        }
        all.add("end");
    }

    private void repeat(int depth) {
        boolean wasInBody = inBody;
        all.add("repeat " + (in100(80) ? "" + below(in100(80) ? 4 : 6) : known()));
        inBody = true;
        rows(depth + 1, below(in100(15) ? 9 : 4));
        inBody = wasInBody;
        all.add("end");
    }

    private void macro(int depth) {
        String name = one(MACROS);
        if (macros.contains(name) && !in100(3)) {
            return;
        }
        boolean wasInMacro = inMacro;
        boolean wasInBody = inBody;
        all.add(name + ": macro");
        inMacro = true;
        inBody = true;
        rows(depth + 1, below(in100(20) ? 20 : 5));
        inMacro = wasInMacro;
        inBody = wasInBody;
        all.add("end");
        macros.add(name);
    }

    private String call() {
        StringBuilder text = new StringBuilder(in100(5) ? "q" : new ArrayList<>(new TreeSet<>(macros))
            .get(below(macros.size())));
        int count = below(4);
        for (int i = 0; i < count; i++) {
            text.append(i == 0 ? " " : ",").append(argument());
        }
        return text.toString();
    }

    private String argument() {
        if (in100(50)) {
            return atom();
        }
        if (in100(60)) {
            return expression(3);
        }
        if (in100(50)) {
            StringBuilder text = new StringBuilder();
            for (int i = 1 + below(14); i > 0; i--) {
                text.append(one("+", "-", "(", ")", "1", "a", " b ", "*", "=", ":", " byte ", "."));
            }
            return text.toString();
        }
        return one("byte", "macro", "end", "if", "jump a", "else", "repeat", "stop", "m", "a:", "q: stop");
    }

    // ---- the whole

    /** Defines or marks what no row has defined. */
    private void define() {
        Set<String> used = new TreeSet<>();
        Set<String> defined = new HashSet<>();
        for (String text : all) {
            if (Plain.tokens(text) > 0) {
                lookAt(Plain.read(text, 0), used, defined);
            }
        }
        used.removeAll(defined);
        for (String name : used) {
            if (all.size() < MOST && !in100(3)) {
                all.add(below(all.size() + 1), one(name + ":", name + ":", name + ": let " + below(300), "weak " + name,
                    "want " + name));
            }
        }
    }

    private void lookAt(List<Plain.Tok> tokens, Set<String> used, Set<String> defined) {
        for (int i = 0; i < tokens.size(); i++) {
            String text = tokens.get(i).text;
            String name = text.startsWith("@") ? text.substring(1) + "_0" : text;
            boolean isLabel = i == 0 && tokens.size() > 1 && tokens.get(1).is(":");
            if (tokens.get(i).kind > 2) {
                continue;
            }
            if (isLabel || i > 0 && tokens.get(i - 1).text.equals("want")) {
                defined.add(name);
            } else if (!Plain.WORDS.contains(name) && !macros.contains(name)) {
                used.add(name);
            }
        }
    }

    private String spoil(String text) {
        if (!odd) {
            return in100(5) ? text + " ; note" : in100(5) ? " " + text.replace(",", " , ") : text;
        }
        int at = below(text.length() + 1);
        if (in100(2)) {
            return text.substring(0, at) + (char) (32 + below(95)) + text.substring(at);
        }
        if (in100(2) && at < text.length()) {
            return text.substring(0, at) + text.substring(at + 1);
        }
        return in100(1) ? one("end", "else", "", ";", "a b c", "5", ":", "%1", "@x:", "foo", "macro", "let 5", "end 1",
            "a: end") : text;
    }
}
