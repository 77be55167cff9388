import java.math.BigInteger;
import java.util.ArrayList;
import java.util.Arrays;
import java.util.Collections;
import java.util.HashMap;
import java.util.HashSet;
import java.util.List;
import java.util.Map;
import java.util.Set;
import java.util.TreeMap;
import java.util.TreeSet;

/**
 * The document once more, in the plainest way and without a thought of room: what PlainTest compares the program with.
 * It follows the document section by section and shares nothing with the program. Its isSound() is always true.
 */
final class Plain {
    static final int NONE = -1;
    static final List<String> WORDS = Arrays.asList(("byte word room jump call load stop let part from align share "
        + "want weak macro end repeat if else").split(" "));

    static final class Fault extends RuntimeException {
        final int code;
        final int line;
        final int column;
        Fault(int code, int line, int column) {
            super(null, null, false, false);
            this.code = code;
            this.line = line;
            this.column = column;
        }
    }

    static final class Tok {
        final int kind;
        final String text;
        final int worth;
        Tok(int kind, String text, int worth) {
            this.kind = kind;
            this.text = text;
            this.worth = worth;
        }
        boolean is(String sign) {
            return kind == 5 && text.equals(sign);
        }
    }

    static final class Row {
        final List<Tok> toks;
        final int line;
        Row(List<Tok> toks, int line) {
            this.toks = toks;
            this.line = line;
        }
        int order() {
            boolean label = toks.size() > 1 && toks.get(0).kind <= 3 && toks.get(1).is(":");
            return label ? 2 : 0;
        }
        String orderWord() {
            int at = order();
            return at < toks.size() && toks.get(at).kind == 1 ? toks.get(at).text : "";
        }
        boolean isOrder(String word) {
            return orderWord().equals(word);
        }
        int column(int place) {
            return form(toks, place);
        }
        Fault fault(int code, int place) {
            return new Fault(code, line, column(place));
        }
    }

    // section 1

    static List<Tok> read(String t, int line) {
        List<Tok> all = new ArrayList<>();
        int i = 0;
        while (i < t.length()) {
            char c = t.charAt(i);
            if (c == ' ') {
                i++;
            } else if (c >= 'a' && c <= 'z') {
                int e = wordEnd(t, i);
                all.add(new Tok(1, t.substring(i, e), 0));
                i = e;
            } else if (c == '@' && i + 1 < t.length() && t.charAt(i + 1) >= 'a' && t.charAt(i + 1) <= 'z') {
                int e = wordEnd(t, i + 1);
                all.add(new Tok(2, t.substring(i, e), 0));
                i = e;
            } else if (c == '%' && i + 1 < t.length() && "123".indexOf(t.charAt(i + 1)) >= 0) {
                all.add(new Tok(3, t.substring(i, i + 2), t.charAt(i + 1) - '0'));
                i += 2;
            } else if (c >= '0' && c <= '9' || c == '$') {
                int b = c == '$' ? 16 : 10;
                int from = c == '$' ? i + 1 : i;
                int e = from;
                BigInteger n = BigInteger.ZERO;
                while (e < t.length() && "0123456789abcdef".substring(0, b).indexOf(t.charAt(e)) >= 0) {
                    n = n.multiply(BigInteger.valueOf(b)).add(BigInteger.valueOf(
                        "0123456789abcdef".indexOf(t.charAt(e))));
                    e++;
                }
                if (e == from) {
                    throw new Fault(1, line, i);
                }
                if (n.bitLength() > 16) {
                    throw new Fault(2, line, i);
                }
                all.add(new Tok(4, n.toString(), n.intValue()));
                i = e;
            } else if ("+-*/(),:=.".indexOf(c) >= 0) {
                all.add(new Tok(5, "" + c, c));
                i++;
            } else if (c == ';') {
                String rest = t.substring(i + 1);
                int f = 0;
                int e = rest.length();
                while (f < e && rest.charAt(f) == ' ') {
                    f++;
                }
                while (f < e && rest.charAt(e - 1) == ' ') {
                    e--;
                }
                rest = rest.substring(f, e);
                all.add(new Tok(6, rest.isEmpty() ? ";" : "; " + rest, 0));
                i = t.length();
            } else {
                throw new Fault(1, line, i);
            }
        }
        return all;
    }

    static int wordEnd(String t, int from) {
        int e = from;
        while (e < t.length() && (t.charAt(e) >= 'a' && t.charAt(e) <= 'z' || t.charAt(e) >= '0' && t.charAt(e) <= '9'
            || t.charAt(e) == '_')) {
            e++;
        }
        return e;
    }

    /** Writes the FORM; answers the COLUMN of a TOKEN, or END. */
    private static int form(List<Tok> toks, int place, StringBuilder form) {
        int order = new Row(toks, 0).order();
        int column = NONE;
        for (int i = 0; i < toks.size(); i++) {
            if (i > 0) {
                Tok a = toks.get(i - 1);
                Tok b = toks.get(i);
                boolean orderWord = i - 1 == order && (a.kind == 1 || a.kind == 3);
                if (b.kind == 6 || a.is(":") || a.is(",") || orderWord || a.kind <= 4 && b.kind <= 4) {
                    form.append(' ');
                }
            }
            if (i == place) {
                column = form.length();
            }
            form.append(toks.get(i).text);
        }
        return column == NONE ? form.length() : column;
    }

    static int form(List<Tok> toks, int place) {
        return form(toks, place, new StringBuilder());
    }

    static String formOf(List<Tok> toks) {
        StringBuilder form = new StringBuilder();
        form(toks, 0, form);
        return form.toString();
    }

    // expressions

    static final class Node {
        int at;
        char op;
        Tok tok;
        Node left;
        Node right;
    }

    static final class Parser {
        final Row row;
        int at;
        int nest;
        Parser(Row row, int at) {
            this.row = row;
            this.at = at;
        }
        boolean is(String signs) {
            return at < row.toks.size() && row.toks.get(at).kind == 5 && signs.contains(row.toks.get(at).text);
        }
        Node expr() {
            Node left = product();
            while (is("+-")) {
                left = join(left, true);
            }
            return left;
        }
        Node product() {
            Node left = factor();
            while (is("*/")) {
                left = join(left, false);
            }
            return left;
        }
        Node join(Node left, boolean sum) {
            Node n = new Node();
            n.at = at;
            n.op = row.toks.get(at).text.charAt(0);
            at++;
            n.left = left;
            n.right = sum ? product() : factor();
            return n;
        }
        Node factor() {
            if (at >= row.toks.size()) {
                throw row.fault(3, at);
            }
            Tok t = row.toks.get(at);
            Node n = new Node();
            n.at = at;
            if (t.kind == 1 || t.kind == 4 || t.is(".")) {
                n.tok = t;
                at++;
                return n;
            }
            if (!t.is("(") && !t.is("-")) {
                throw row.fault(3, at);
            }
            if (nest == 3) {
                throw row.fault(6, at);
            }
            nest++;
            at++;
            if (t.is("-")) {
                n.op = '~';
                n.left = factor();
            } else {
                n = expr();
                if (!is(")")) {
                    throw row.fault(3, at);
                }
                at++;
            }
            nest--;
            return n;
        }
    }

    interface Names {
        long[] of(Tok name, Row row, int at);
        long[] point(Row row, int at);
    }

    static long[] eval(Node n, Row row, Names names) {
        if (n.tok != null) {
            if (n.tok.kind == 4) {
                return new long[] {n.tok.worth, NONE};
            }
            return n.tok.kind == 1 ? names.of(n.tok, row, n.at) : names.point(row, n.at);
        }
        long[] l = eval(n.left, row, names);
        if (n.op == '~') {
            if (l[1] != NONE) {
                throw row.fault(11, n.at);
            }
            return new long[] {-l[0], NONE};
        }
        long[] r = eval(n.right, row, names);
        long v;
        long base;
        switch (n.op) {
            case '+':
                if (l[1] != NONE && r[1] != NONE) {
                    throw row.fault(11, n.at);
                }
                v = l[0] + r[0];
                base = l[1] != NONE ? l[1] : r[1];
                break;
            case '-':
                if (r[1] != NONE && l[1] != r[1]) {
                    throw row.fault(11, n.at);
                }
                v = l[0] - r[0];
                base = r[1] != NONE ? NONE : l[1];
                break;
            default:
                if (l[1] != NONE || r[1] != NONE) {
                    throw row.fault(11, n.at);
                }
                if (n.op == '/' && r[0] == 0) {
                    throw row.fault(13, n.at);
                }
                v = n.op == '*' ? l[0] * r[0] : l[0] / r[0];
                base = NONE;
        }
        if (v > 65535 || v < -65535) {
            throw row.fault(12, n.at);
        }
        return new long[] {v, base};
    }

    static void namesIn(Node n, List<Node> to) {
        if (n.tok != null) {
            if (n.tok.kind == 1) {
                to.add(n);
            }
            return;
        }
        namesIn(n.left, to);
        if (n.right != null) {
            namesIn(n.right, to);
        }
    }

    // section 3

    static final class Flat {
        final Row row;
        final int line;
        final int expansion;
        final String word;
        final String label;
        int part;
        String named;
        List<Node> nodes = new ArrayList<>();
        List<Integer> firsts = new ArrayList<>();
        boolean pooled;
        int told;
        int size;
        int offset;
        boolean shortable;
        long number;
        long base = NONE;
        int literal;
        List<long[]> values = new ArrayList<>();

        Flat(Row row, int expansion, String word, String label) {
            this.row = row;
            this.line = row.line;
            this.expansion = expansion;
            this.word = word;
            this.label = label;
        }
    }

    static final class Literal {
        long number;
        long base;
    }

    static final class Work {
        List<Flat> flats = new ArrayList<>();
        int part;
        int expansions;
        Map<String, List<Row>> macros = new HashMap<>();
        Map<String, Long> known = new HashMap<>();
        Set<String> let = new HashSet<>();
        int bodies;

        // symbols
        Map<String, int[]> kinds = new HashMap<>();
        Map<String, Integer> weak = new HashMap<>();
        Set<String> share = new HashSet<>();
        List<String> symbols = new ArrayList<>();
        Map<String, long[]> values = new HashMap<>();
        int passes;
        int[] code = new int[4];
        int[] length = new int[4];
        int[] start = new int[4];
        int[] align = {1, 1, 1, 1};
        int[] origin = {-1, -1, -1, -1};
        List<List<Literal>> literals = new ArrayList<>();
        TreeMap<Integer, Integer> bytes = new TreeMap<>();
        TreeMap<Integer, long[]> moves = new TreeMap<>();

        void expand(List<String> source) {
            List<Row> rows = new ArrayList<>();
            for (int i = 0; i < source.size(); i++) {
                rows.add(new Row(read(source.get(i), i), i));
            }
            handleAll(rows, 0);
        }

        void handleAll(List<Row> rows, int k) {
            int i = 0;
            while (i < rows.size()) {
                i = handle(rows, i, k);
            }
        }

        /** Handles a row; answers which one is next. */
        int handle(List<Row> rows, int i, int k) {
            Row row = nameLocals(rows.get(i), k);
            List<Tok> toks = row.toks;
            if (toks.isEmpty()) {
                return i + 1;
            }
            for (int j = 0; j < toks.size(); j++) {
                if (toks.get(j).kind == 3) {
                    throw row.fault(16, j);
                }
            }
            int o = row.order();
            String label = o == 2 ? toks.get(0).text : null;
            if (o == 2 && toks.size() == 2) {
                flat(row, k, "", label);
                return i + 1;
            }
            if (toks.get(o).kind != 1) {
                throw row.fault(3, o);
            }
            String word = toks.get(o).text;
            int w = WORDS.indexOf(word) + 1;
            if (w == 0 && !macros.containsKey(word)) {
                throw row.fault(4, o);
            }
            lookAtLabel(row, w, label);
            if (w == 0) {
                call(row, o, label, k);
                return i + 1;
            }
            Flat f = new Flat(row, k, word, label);
            readOperands(f, w, o + 1);
            if (w == 3 || w == 9 || w == 10 || w == 11 || w == 17 || w == 18) {
                f.told = (int) eval(f.nodes.get(0), row, knownNames())[0];
                if (!isWithin(w, f.told)) {
                    throw row.fault(12, f.firsts.get(0));
                }
            }
            if (w <= 14) {
                addOrder(f, w);
                return i + 1;
            }
            return block(rows, i, f, w);
        }

        Row nameLocals(Row row, int k) {
            List<Tok> toks = new ArrayList<>();
            for (Tok t : row.toks) {
                if (t.kind != 6) {
                    toks.add(t.kind == 2 && k == 0 ? new Tok(1, t.text.substring(1) + "_0", 0) : t);
                }
            }
            return new Row(toks, row.line);
        }

        void lookAtLabel(Row row, int w, String label) {
            if ((w == 8 || w == 15) && label == null) {
                throw row.fault(3, 0);
            }
            if (w > 8 && w != 15 && label != null) {
                throw row.fault(3, 0);
            }
        }

        void readOperands(Flat f, int w, int from) {
            List<Tok> toks = f.row.toks;
            int at = from;
            if (w == 12 || w == 13 || w == 14) {
                if (at >= toks.size() || toks.get(at).kind != 1) {
                    throw f.row.fault(3, at);
                }
                f.named = toks.get(at).text;
                at++;
            } else if (w != 7 && w != 15 && w != 16 && w != 19) {
                f.pooled = w == 6 && at < toks.size() && toks.get(at).is("=");
                at = f.pooled ? at + 1 : at;
                boolean more = true;
                while (more) {
                    f.firsts.add(at);
                    Parser p = new Parser(f.row, at);
                    f.nodes.add(p.expr());
                    at = p.at;
                    more = f.nodes.size() < (w <= 2 ? 3 : 1) && at < toks.size() && toks.get(at).is(",");
                    at = more ? at + 1 : at;
                }
            }
            if (at < toks.size()) {
                throw f.row.fault(3, at);
            }
        }

        static boolean isWithin(int w, int told) {
            switch (w) {
                case 3:
                    return told >= 0 && told <= 40;
                case 9:
                    return told >= 0 && told <= 3;
                case 10:
                    return told >= 0 && told <= 500;
                case 11:
                    return told == 1 || told == 2 || told == 4 || told == 8 || told == 16;
                case 17:
                    return told >= 0 && told <= 5;
                default:
                    return true;
            }
        }

        void addOrder(Flat f, int w) {
            if (w == 9) {
                part = f.told;
            }
            add(f);
            if (w == 8 && let.add(f.label)) {
                try {
                    known.put(f.label, eval(f.nodes.get(0), f.row, knownNames())[0]);
                } catch (Fault e) {
                    known.remove(f.label);
                }
            }
        }

        /** How the ORDER WORD of a row counts where an end is looked for. */
        static int opens(Row row) {
            if (row.isOrder("macro") || row.isOrder("repeat") || row.isOrder("if")) {
                return 1;
            }
            return row.isOrder("end") ? -1 : 0;
        }

        int block(List<Row> rows, int i, Flat f, int w) {
            int o = f.row.order();
            if (w == 16 || w == 19) {
                throw f.row.fault(5, o);
            }
            int open = 1;
            int end = i;
            while (open > 0 && end < rows.size() - 1) {
                end++;
                open += opens(rows.get(end));
            }
            if (open > 0) {
                throw f.row.fault(5, o);
            }
            List<Row> inside = rows.subList(i + 1, end);
            if (w == 15) {
                define(f, inside);
            } else if (w == 17) {
                for (int round = 0; round < f.told; round++) {
                    body(f.row, o, inside, true, null, 0);
                }
            } else {
                body(f.row, o, partOf(inside, f.told != 0), false, null, f.expansion);
            }
            return end + 1;
        }

        void define(Flat f, List<Row> inside) {
            if (macros.containsKey(f.label)) {
                throw f.row.fault(8, 0);
            }
            for (Row r : inside) {
                if (r.isOrder("macro")) {
                    throw r.fault(5, r.order());
                }
            }
            macros.put(f.label, new ArrayList<>(inside));
        }

        static List<Row> partOf(List<Row> inside, boolean first) {
            int open = 0;
            for (int j = 0; j < inside.size(); j++) {
                open += opens(inside.get(j));
                if (open == 0 && inside.get(j).isOrder("else")) {
                    return first ? inside.subList(0, j) : inside.subList(j + 1, inside.size());
                }
            }
            return first ? inside : new ArrayList<>();
        }

        Names knownNames() {
            return new Names() {
                public long[] of(Tok name, Row row, int at) {
                    if (!known.containsKey(name.text)) {
                        throw row.fault(10, at);
                    }
                    return new long[] {known.get(name.text), NONE};
                }
                public long[] point(Row row, int at) {
                    throw row.fault(10, at);
                }
            };
        }

        void flat(Row row, int k, String word, String label) {
            add(new Flat(row, k, word, label));
        }

        void add(Flat f) {
            if (flats.size() >= 120) {
                throw f.row.fault(7, 0);
            }
            f.part = part;
            flats.add(f);
        }

        void call(Row row, int o, String label, int k) {
            List<List<Tok>> args = argumentsOf(row, o + 1);
            if (label != null) {
                flat(new Row(row.toks.subList(0, 2), row.line), k, "", label);
            }
            body(row, o, macros.get(row.toks.get(o).text), true, args, 0);
        }

        static List<List<Tok>> argumentsOf(Row row, int from) {
            List<List<Tok>> args = new ArrayList<>();
            int n = row.toks.size();
            List<Tok> arg = new ArrayList<>();
            for (int at = from; at <= n && from < n; at++) {
                boolean ends = at == n || row.toks.get(at).is(",");
                if (ends ? arg.isEmpty() : args.size() == 3) {
                    throw row.fault(3, at);
                }
                if (ends) {
                    args.add(arg);
                    arg = new ArrayList<>();
                } else {
                    arg.add(row.toks.get(at));
                }
            }
            return args;
        }

        /** Handles a BODY, as a new EXPANSION (args: of a macro call) or in the EXPANSION k. */
        void body(Row row, int o, List<Row> rows, boolean fresh, List<List<Tok>> args, int k) {
            if (bodies == 4 || fresh && expansions == 60) {
                throw row.fault(6, o);
            }
            bodies++;
            if (fresh) {
                expansions++;
                int mine = expansions;
                List<Row> ready = new ArrayList<>();
                for (Row r : rows) {
                    ready.add(ready(r, args, mine));
                }
                handleAll(ready, mine);
            } else {
                handleAll(rows, k);
            }
            bodies--;
        }

        static Row ready(Row r, List<List<Tok>> args, int k) {
            List<Tok> toks = new ArrayList<>();
            for (int i = 0; i < r.toks.size(); i++) {
                Tok t = r.toks.get(i);
                if (t.kind == 3 && args != null) {
                    if (t.worth > args.size()) {
                        throw r.fault(16, i);
                    }
                    toks.addAll(args.get(t.worth - 1));
                } else {
                    toks.add(t.kind == 2 ? new Tok(1, t.text.substring(1) + "_" + k, 0) : t);
                }
            }
            return new Row(toks, r.line);
        }

        // sections 4 to 7

        void assemble(List<String> source) {
            expand(source);
            for (int i = 0; i < flats.size(); i++) {
                Flat f = flats.get(i);
                if (f.label != null) {
                    define(f, f.label, f.word.equals("let") ? 2 : 1, i, 0);
                }
                if (f.word.equals("want")) {
                    define(f, f.named, 3, i, 1);
                }
            }
            for (int i = 0; i < flats.size(); i++) {
                Flat f = flats.get(i);
                if (f.word.equals("weak") && !weak.containsKey(f.named)) {
                    weak.put(f.named, i);
                }
                if (f.word.equals("share")) {
                    share.add(f.named);
                }
            }
            for (Map.Entry<String, Integer> e : weak.entrySet()) {
                if (!kinds.containsKey(e.getKey())) {
                    kinds.put(e.getKey(), new int[] {4, e.getValue()});
                }
            }
            symbols.addAll(kinds.keySet());
            Collections.sort(symbols);
            jumps();
            reckonEquates();
            ask();
            place();
            write();
        }

        void define(Flat f, String name, int kind, int at, int place) {
            if (kinds.containsKey(name)) {
                throw f.row.fault(8, place);
            }
            kinds.put(name, new int[] {kind, at});
        }

        int kind(String name) {
            return kinds.containsKey(name) ? kinds.get(name)[0] : 0;
        }

        int size(Flat f, boolean isShort) {
            switch (f.word) {
                case "byte": return f.nodes.size();
                case "word": return 2 * f.nodes.size();
                case "room": return f.told;
                case "jump": return isShort ? 2 : 3;
                case "call": return 3;
                case "load": return f.pooled ? 3 : 2;
                case "stop": return 1;
                default: return 0;
            }
        }

        int target(Flat f) {
            return kinds.get(f.nodes.get(0).tok.text)[1];
        }

        int[] offsets(boolean[] isShort) {
            int[] by = new int[4];
            int[] offsets = new int[flats.size()];
            for (int i = 0; i < flats.size(); i++) {
                Flat f = flats.get(i);
                offsets[i] = by[f.part];
                by[f.part] += size(f, isShort[i]);
            }
            return offsets;
        }

        int reach(int i, boolean[] isShort) {
            int[] offsets = offsets(isShort);
            return offsets[target(flats.get(i))] - (offsets[i] + 2);
        }

        boolean[] isShort;

        void jumps() {
            isShort = new boolean[flats.size()];
            for (int i = 0; i < flats.size(); i++) {
                Flat f = flats.get(i);
                if (f.word.equals("jump") && f.row.toks.size() == f.firsts.get(0) + 1) {
                    Tok t = f.nodes.get(0).tok;
                    f.shortable = t.kind == 1 && kind(t.text) == 1 && flats.get(target(f)).part == f.part;
                }
                isShort[i] = f.shortable;
            }
            boolean changes = true;
            while (changes) {
                passes++;
                changes = false;
                boolean[] then = isShort.clone();
                for (int i = 0; i < flats.size(); i++) {
                    if (then[i]) {
                        int r = reach(i, then);
                        if (r < -16 || r > 15) {
                            isShort[i] = false;
                            changes = true;
                        }
                    }
                }
            }
            int[] offsets = offsets(isShort);
            for (int i = 0; i < flats.size(); i++) {
                Flat f = flats.get(i);
                f.offset = offsets[i];
                f.size = size(f, isShort[i]);
                code[f.part] += f.size;
            }
        }

        int longByShrinking() {
            boolean[] s = new boolean[flats.size()];
            boolean changes = true;
            while (changes) {
                changes = false;
                for (int i = 0; i < flats.size(); i++) {
                    if (flats.get(i).shortable && !s[i]) {
                        s[i] = true;
                        int r = reach(i, s);
                        if (r < -16 || r > 15) {
                            s[i] = false;
                        } else {
                            changes = true;
                        }
                    }
                }
            }
            int n = 0;
            for (int i = 0; i < flats.size(); i++) {
                if (flats.get(i).word.equals("jump") && !s[i]) {
                    n++;
                }
            }
            return n;
        }

        Names names(int offset, int part) {
            return new Names() {
                public long[] of(Tok name, Row row, int at) {
                    switch (kind(name.text)) {
                        case 1:
                            Flat f = flats.get(kinds.get(name.text)[1]);
                            return new long[] {f.offset, f.part};
                        case 2:
                            return values.get(name.text);
                        case 3:
                            return new long[] {0, 10 + symbols.indexOf(name.text)};
                        case 4:
                            return new long[] {0, NONE};
                        default:
                            throw row.fault(9, at);
                    }
                }
                public long[] point(Row row, int at) {
                    if (part == NONE) {
                        throw row.fault(10, at);
                    }
                    return new long[] {offset, part};
                }
            };
        }

        void reckonEquates() {
            for (;;) {
                boolean brought = false;
                Flat left = null;
                for (Flat f : flats) {
                    if (!f.word.equals("let") || values.containsKey(f.label)) {
                        continue;
                    }
                    if (waiting(f) == null) {
                        long[] v = eval(f.nodes.get(0), f.row, names(f.offset, f.part));
                        values.put(f.label, v);
                        f.number = v[0];
                        f.base = v[1];
                        brought = true;
                    } else if (left == null) {
                        left = f;
                    }
                }
                if (left == null) {
                    return;
                }
                if (!brought) {
                    Node n = waiting(left);
                    throw left.row.fault(kind(n.tok.text) == 0 ? 9 : 14, n.at);
                }
            }
        }

        Node waiting(Flat f) {
            List<Node> names = new ArrayList<>();
            namesIn(f.nodes.get(0), names);
            for (Node n : names) {
                int kind = kind(n.tok.text);
                if (kind == 0 || kind == 2 && !values.containsKey(n.tok.text)) {
                    return n;
                }
            }
            return null;
        }

        void ask() {
            for (int p = 0; p < 4; p++) {
                literals.add(new ArrayList<>());
            }
            for (Flat f : flats) {
                if (f.word.equals("share") && kind(f.named) != 1 && kind(f.named) != 2) {
                    throw f.row.fault(9, 1);
                }
                if (!Arrays.asList("byte", "word", "jump", "call", "load").contains(f.word)) {
                    continue;
                }
                for (int j = 0; j < f.nodes.size(); j++) {
                    long[] v = eval(f.nodes.get(j), f.row, names(f.offset, f.part));
                    if (j == 0) {
                        f.number = v[0];
                        f.base = v[1];
                    }
                    f.values.add(v);
                    int at = f.firsts.get(j);
                    if (f.word.equals("byte") || f.word.equals("load") && !f.pooled) {
                        if (v[1] != NONE) {
                            throw f.row.fault(11, at);
                        }
                        if (v[0] < -128 || v[0] > 255) {
                            throw f.row.fault(12, at);
                        }
                    } else {
                        int least = f.word.equals("jump") || f.word.equals("call") ? 0 : -32768;
                        if (v[1] == NONE && (v[0] < least || v[0] > 65535)) {
                            throw f.row.fault(12, at);
                        }
                    }
                    if (f.pooled) {
                        List<Literal> pool = literals.get(f.part);
                        f.literal = NONE;
                        for (int l = 0; l < pool.size(); l++) {
                            if (pool.get(l).number == v[0] && pool.get(l).base == v[1]) {
                                f.literal = l;
                            }
                        }
                        if (f.literal == NONE) {
                            Literal l = new Literal();
                            l.number = v[0];
                            l.base = v[1];
                            f.literal = pool.size();
                            pool.add(l);
                        }
                    }
                }
            }
        }

        void place() {
            for (Flat f : flats) {
                if (f.word.equals("align")) {
                    align[f.part] = Math.max(align[f.part], f.told);
                }
                if (f.word.equals("from")) {
                    origin[f.part] = f.told;
                }
            }
            int end = 0;
            for (int p = 0; p < 4; p++) {
                length[p] = code[p] + 2 * literals.get(p).size();
                if (length[p] > 400) {
                    throw new Fault(15, NONE, p);
                }
            }
            for (int p = 0; p < 4; p++) {
                start[p] = end;
                while (start[p] % align[p] != 0) {
                    start[p]++;
                }
                if (origin[p] != NONE) {
                    start[p] = origin[p];
                }
                end = start[p] + length[p];
            }
            Set<Integer> taken = new HashSet<>();
            for (int p = 0; p < 4; p++) {
                for (int a = start[p]; a < start[p] + length[p]; a++) {
                    if (!taken.add(a)) {
                        throw new Fault(15, NONE, p);
                    }
                }
            }
        }

        long meant(long[] v) {
            return v[1] >= 0 && v[1] <= 3 ? start[(int) v[1]] + v[0] : v[0];
        }

        void put(int address, long word) {
            bytes.put(address, (int) (word & 255));
            bytes.put(address + 1, (int) (word >> 8 & 255));
        }

        void word(int address, long[] v) {
            put(address, meant(v));
            if (v[1] != NONE) {
                moves.put(address, new long[] {v[1] <= 3 ? 1 : 2, v[1], v[0]});
            }
        }

        int address(Flat f) {
            return start[f.part] + f.offset;
        }

        void write() {
            for (int i = 0; i < flats.size(); i++) {
                Flat f = flats.get(i);
                int a = address(f);
                switch (f.word) {
                    case "byte":
                        for (long[] v : f.values) {
                            bytes.put(a++, (int) (v[0] & 255));
                        }
                        break;
                    case "word":
                        for (long[] v : f.values) {
                            word(a, v);
                            a += 2;
                        }
                        break;
                    case "room":
                    case "stop":
                        for (int j = 0; j < f.size; j++) {
                            bytes.put(a + j, 0);
                        }
                        break;
                    case "jump":
                        if (isShort[i]) {
                            bytes.put(a, 16);
                            bytes.put(a + 1, reach(i, isShort) & 255);
                        } else {
                            bytes.put(a, 17);
                            word(a + 1, f.values.get(0));
                        }
                        break;
                    case "call":
                        bytes.put(a, 32);
                        put(a + 1, meant(f.values.get(0)) - (a + 3));
                        if (f.values.get(0)[1] != f.part) {
                            moves.put(a + 1, new long[] {3, f.values.get(0)[1], f.values.get(0)[0]});
                        }
                        break;
                    case "load":
                        if (!f.pooled) {
                            bytes.put(a, 48);
                            bytes.put(a + 1, (int) (f.values.get(0)[0] & 255));
                        } else {
                            bytes.put(a, 49);
                            int offset = code[f.part] + 2 * f.literal;
                            put(a + 1, start[f.part] + offset);
                            moves.put(a + 1, new long[] {1, f.part, offset});
                        }
                        break;
                    default:
                        break;
                }
            }
            for (int p = 0; p < 4; p++) {
                for (int l = 0; l < literals.get(p).size(); l++) {
                    Literal it = literals.get(p).get(l);
                    word(start[p] + code[p] + 2 * l, new long[] {it.number, it.base});
                }
            }
        }

        int longs() {
            int n = 0;
            for (int i = 0; i < flats.size(); i++) {
                n += flats.get(i).word.equals("jump") && !isShort[i] ? 1 : 0;
            }
            return n;
        }

        int reachAlone(int i) {
            boolean[] s = isShort.clone();
            s[i] = true;
            return reach(i, s);
        }

        boolean uses(Flat f, String name) {
            if (name.equals(f.named)) {
                return true;
            }
            List<Node> all = new ArrayList<>();
            for (Node n : f.nodes) {
                namesIn(n, all);
            }
            for (Node n : all) {
                if (n.tok.text.equals(name)) {
                    return true;
                }
            }
            return false;
        }

        List<Integer> users(String name) {
            List<Integer> all = new ArrayList<>();
            for (int i = 0; i < flats.size(); i++) {
                if (uses(flats.get(i), name)) {
                    all.add(i);
                }
            }
            return all;
        }

        List<List<Flat>> stretches() {
            List<List<Flat>> all = new ArrayList<>();
            for (int i = 0; i < flats.size(); i++) {
                if (i == 0 || flats.get(i).part != flats.get(i - 1).part) {
                    all.add(new ArrayList<>());
                }
                all.get(all.size() - 1).add(flats.get(i));
            }
            return all;
        }

        Set<String> namesOf(List<Flat> stretch) {
            Set<String> all = new HashSet<>();
            for (Flat f : stretch) {
                if (f.label != null) {
                    all.add(f.label);
                }
                for (String s : symbols) {
                    if (uses(f, s)) {
                        all.add(s);
                    }
                }
            }
            return all;
        }

        boolean mayChange(int s) {
            Set<String> a = namesOf(stretches().get(s));
            a.retainAll(namesOf(stretches().get(s + 1)));
            return a.isEmpty();
        }

        String listing(Flat f) {
            StringBuilder b = new StringBuilder(String.format("%04x ", address(f)));
            for (int j = 0; j < f.size && j < 4; j++) {
                b.append(String.format("%02x", bytes.get(address(f) + j)));
            }
            return b.append(f.size > 4 ? "+" : "").append("  ").append(formOf(f.row.toks)).toString();
        }

        int least() {
            return bytes.isEmpty() ? 0 : bytes.firstKey();
        }

        int greatest() {
            return bytes.isEmpty() ? 0 : bytes.lastKey() + 1;
        }
    }

    // the object

    List<String> lines = new ArrayList<>();
    int[] fault = {0, NONE, 0};
    Work image;
    TreeMap<Integer, Integer> old = new TreeMap<>();

    int assemble() {
        Work w = new Work();
        fault = new int[] {0, NONE, 0};
        try {
            w.assemble(lines);
        } catch (Fault e) {
            fault = new int[] {e.code, e.line, e.column};
            return e.code;
        }
        if (image != null) {
            old = image.bytes;
        }
        image = w;
        return 0;
    }

    int flatten() {
        Work w = new Work();
        fault = new int[] {0, NONE, 0};
        try {
            w.expand(lines);
        } catch (Fault e) {
            fault = new int[] {e.code, e.line, e.column};
            return e.code;
        }
        lines = new ArrayList<>();
        for (Flat f : w.flats) {
            lines.add(formOf(f.row.toks));
        }
        return 0;
    }

    static String formOf(String text) {
        try {
            return formOf(read(text, 0));
        } catch (Fault e) {
            return text;
        }
    }

    static int tokens(String text) {
        try {
            return read(text, 0).size();
        } catch (Fault e) {
            return -e.code;
        }
    }

    int tidy() {
        int n = 0;
        for (int i = 0; i < lines.size(); i++) {
            String f = formOf(lines.get(i));
            if (!f.equals(lines.get(i))) {
                lines.set(i, f);
                n++;
            }
        }
        return n;
    }

    static int[] differ(TreeMap<Integer, Integer> a, TreeMap<Integer, Integer> b) {
        TreeSet<Integer> d = new TreeSet<>();
        for (int k : a.keySet()) {
            if (!a.get(k).equals(b.get(k))) {
                d.add(k);
            }
        }
        for (int k : b.keySet()) {
            if (!b.get(k).equals(a.get(k))) {
                d.add(k);
            }
        }
        return d.isEmpty() ? new int[] {0, NONE, NONE} : new int[] {d.size(), d.first(), d.last()};
    }

    int trial(int at, String line) {
        Work w = new Work();
        try {
            w.assemble(lines);
        } catch (Fault e) {
            return -e.code;
        }
        List<String> others = new ArrayList<>(lines);
        others.set(at, line);
        Work x = new Work();
        try {
            x.assemble(others);
        } catch (Fault e) {
            return -e.code;
        }
        return differ(w.bytes, x.bytes)[0];
    }

    int[] value(String text) {
        List<Tok> toks = new ArrayList<>();
        for (Tok t : read(text, 0)) {
            toks.add(t.kind == 2 ? new Tok(1, t.text.substring(1) + "_0", 0) : t);
            if (t.kind == 3) {
                return new int[] {16, 0, NONE};
            }
        }
        try {
            Row row = new Row(toks, 0);
            long[] v = eval(new Parser(row, 0).expr(), row, image.names(0, NONE));
            return new int[] {0, (int) v[0], (int) v[1]};
        } catch (Fault e) {
            return new int[] {e.code, 0, NONE};
        }
    }

    long d;

    void v(long v) {
        d = d * 31 + v;
    }

    void v(String s) {
        for (int i = 0; i < s.length(); i++) {
            v(s.charAt(i));
        }
    }

    int ofFlat(int i, int what) {
        Flat f = image.flats.get(i);
        switch (what) {
            case 0: return f.line;
            case 1: return f.expansion;
            case 2: return WORDS.indexOf(f.word) + 1;
            case 3: return f.part;
            case 4: return f.offset;
            case 5: return f.size;
            case 6: return image.address(f);
            case 7: return f.word.equals("jump") ? image.isShort[i] ? 1 : 2 : 0;
            case 8: return f.shortable ? 1 : 0;
            case 9: return f.row.toks.size();
            case 10: return (int) f.number;
            default: return (int) f.base;
        }
    }

    int image(int what) {
        Work w = image;
        switch (what) {
            case 0: return w.least();
            case 1: return w.greatest();
            case 2: return w.bytes.size();
            case 3: return w.greatest() - w.least() - w.bytes.size();
            case 4: return w.moves.size();
            case 5: return w.symbols.size();
            case 6: return w.literals.get(0).size() + w.literals.get(1).size() + w.literals.get(2).size()
                + w.literals.get(3).size();
            case 7: return w.expansions;
            case 8: return w.macros.size();
            default: return w.stretches().size();
        }
    }

    int part(int p, int what) {
        Work w = image;
        int[] all = {w.start[p], w.length[p], w.code[p], w.align[p], w.origin[p], w.literals.get(p).size()};
        return all[what];
    }

    int ofSymbol(int i, int what) {
        Work w = image;
        String s = w.symbols.get(i);
        long[] value = w.names(0, 0).of(new Tok(1, s, 0), null, 0);
        switch (what) {
            case 0: return w.kind(s);
            case 1: return (int) value[0];
            case 2: return (int) value[1];
            case 3: return w.kinds.get(s)[1];
            case 4: return w.users(s).size();
            case 5: return w.share.contains(s) ? 1 : 0;
            default: return w.weak.containsKey(s) ? 1 : 0;
        }
    }

    int jumps(int what) {
        int jumps = 0;
        int shortable = 0;
        for (Flat f : image.flats) {
            jumps += f.word.equals("jump") ? 1 : 0;
            shortable += f.shortable ? 1 : 0;
        }
        int[] all = {jumps, shortable, image.longs(), image.passes, image.longByShrinking()};
        return all[what];
    }

    long digest() {
        d = 6401;
        v(lines.size());
        for (String t : lines) {
            v(t.length());
            v(formOf(t));
            v(tokens(t));
        }
        for (int x : fault) {
            v(x);
        }
        v(image == null ? 0 : 1);
        if (image != null) {
            Work w = image;
            v(w.flats.size());
            for (int i = 0; i < w.flats.size(); i++) {
                for (int what = 0; what <= 11; what++) {
                    v(ofFlat(i, what));
                }
                v(w.listing(w.flats.get(i)));
            }
            for (int what = 0; what <= 9; what++) {
                v(image(what));
            }
            for (int p = 0; p < 4; p++) {
                for (int what = 0; what <= 5; what++) {
                    v(part(p, what));
                }
                for (int a = w.start[p]; a < w.start[p] + w.length[p]; a++) {
                    v(w.bytes.get(a));
                }
                for (int l = 0; l < w.literals.get(p).size(); l++) {
                    v(w.literals.get(p).get(l).number);
                    v(w.literals.get(p).get(l).base);
                    v(w.start[p] + w.code[p] + 2 * l);
                }
            }
            for (int i = 0; i < w.symbols.size(); i++) {
                v(w.symbols.get(i));
                for (int what = 0; what <= 6; what++) {
                    v(ofSymbol(i, what));
                }
                for (int u : w.users(w.symbols.get(i))) {
                    v(u);
                }
            }
            for (Map.Entry<Integer, long[]> m : w.moves.entrySet()) {
                v(m.getKey());
                for (long x : m.getValue()) {
                    v(x);
                }
            }
            for (int what = 0; what <= 4; what++) {
                v(jumps(what));
            }
            for (int x : differ(old, w.bytes)) {
                v(x);
            }
        }
        v(1);
        return d;
    }
}
