import java.util.ArrayList;
import java.util.Arrays;

/** An assembler for a small machine. A word in capitals in a comment here is one of the document's words. */
public final class Twopassworks {
    private static final int NONE = -1;
    private static final int MOST_LINES = 120;
    private static final int MOST_SIGNS = 80;
    private static final int MOST_NUMBER = 65535;
    private static final int MOST_EXPANSIONS = 60;
    private static final int MOST_BODIES = 4;
    private static final int MOST_INSIDE = 3;
    private static final int MOST_EXPRESSIONS = 3;
    private static final int MOST_ARGUMENTS = 3;
    private static final int PARTS = 4;
    private static final int MOST_LENGTH = 400;
    private static final int WANTED_BASE = 10;
    private static final int STRETCHES_LOOKED_AT = 6;
    private static final int JUMPS_CHOSEN_FROM = 6;
    // The document sets no bound to a row of TOKENS; these stand far above what a run can need.
    private static final int MOST_ROOM = 1 << 20;
    private static final int MOST_STEPS = 1000000;

    private static final int NAME = 1;
    private static final int LOCAL = 2;
    private static final int PARAMETER = 3;
    private static final int NUMBER = 4;
    private static final int SIGN = 5;
    private static final int REMARK = 6;

    private static final int FAULT_SIGN = 1;
    private static final int FAULT_NUMBER = 2;
    private static final int FAULT_LINE = 3;
    private static final int FAULT_ORDER = 4;
    private static final int FAULT_BLOCK = 5;
    private static final int FAULT_DEEP = 6;
    private static final int FAULT_LONG = 7;
    private static final int FAULT_TWICE = 8;
    private static final int FAULT_UNKNOWN = 9;
    private static final int FAULT_KNOWN = 10;
    private static final int FAULT_BASE = 11;
    private static final int FAULT_RANGE = 12;
    private static final int FAULT_ZERO = 13;
    private static final int FAULT_ROUND = 14;
    private static final int FAULT_SPACE = 15;
    private static final int FAULT_ARGUMENT = 16;

    private static final String SIGNS = "+-*/(),:=.";
    private static final String WORDS =
        "byte word room jump call load stop let part from align share want weak macro end repeat if else";
    private static final int BYTE = 1;
    private static final int WORD = 2;
    private static final int ROOM = 3;
    private static final int JUMP = 4;
    private static final int CALL = 5;
    private static final int LOAD = 6;
    private static final int STOP = 7;
    private static final int LET = 8;
    private static final int PART = 9;
    private static final int FROM = 10;
    private static final int ALIGN = 11;
    private static final int SHARE = 12;
    private static final int WANT = 13;
    private static final int WEAK = 14;
    private static final int MACRO = 15;
    private static final int END = 16;
    private static final int REPEAT = 17;
    private static final int IF = 18;
    private static final int ELSE = 19;

    // What kind of SYMBOL a NAME is.
    private static final int LABEL = 1;
    private static final int EQUATE = 2;
    private static final int WANTED = 3;
    private static final int WEAK_ALONE = 4;

    // What let has made of a NAME so far, while FLAT lines are made.
    private static final int NOT_LET = 0;
    private static final int LET_UNKNOWN = 1;
    private static final int LET_KNOWN = 2;

    // How tightly what waits on the stack of a parse binds.
    private static final int RANK_OPEN = 0;
    private static final int RANK_ADD = 1;
    private static final int RANK_MULTIPLY = 2;
    private static final int RANK_MINUS = 3;

    private static final int KIND_OF_WORD = 1;
    private static final int KIND_OF_WANTED = 2;
    private static final int KIND_OF_CALL = 3;
    private static final int SIZE_SHORT = 2;
    private static final int SIZE_LONG = 3;
    private static final int LEAST_REACH = -16;
    private static final int MOST_REACH = 15;
    private static final int LISTED_BYTES = 4;
    private static final int CODE_SHORT = 16;
    private static final int CODE_LONG = 17;
    private static final int CODE_CALL = 32;
    private static final int CODE_LOAD = 48;
    private static final int CODE_LOAD_LITERAL = 49;

    private final Text[] lines = new Text[MOST_LINES];
    private int lineCount;
    private Assembly image = new Assembly();
    private Assembly spare = new Assembly();
    private boolean made;
    private final Memory old = new Memory();
    private final Memory before = new Memory();
    private final Text[] again = new Text[MOST_LINES + 1];
    private int faultCode;
    private int faultLine = NONE;
    private int faultColumn;
    private int refused;
    private final Tokens scan = new Tokens();
    private final Row scanned = new Row();
    private final Text out = new Text();

    public Twopassworks() {
    }

    // ---- the source

    public int put(int at, int label, int order, int shape, int x, int y)
        throws IndexOutOfBoundsException, IllegalArgumentException, IllegalStateException {
        if (at < 0 || at > lineCount) {
            throw new IndexOutOfBoundsException();
        }
        if (!isLine(label, order, shape, x, y)) {
            throw new IllegalArgumentException();
        }
        if (lineCount >= MOST_LINES) {
            throw new IllegalStateException();
        }
        lineCount++;
        shift(lineCount - 1, at);
        writeLine(textOf(lines, at), label, order, shape, x, y);
        return lineCount;
    }

    public int remark(int at, int number)
        throws IndexOutOfBoundsException, IllegalArgumentException, IllegalStateException {
        if (!hasLine(at)) {
            throw new IndexOutOfBoundsException();
        }
        if (number < 0 || number > 99) {
            throw new IllegalArgumentException();
        }
        Text text = textOf(lines, at);
        if (text.size() >= MOST_SIGNS) {
            throw new IllegalStateException();
        }
        text.addAll(" ;r");
        text.addNumber(number);
        return text.size();
    }

    public int sign(int at, int column, int code)
        throws IndexOutOfBoundsException, IllegalArgumentException, IllegalStateException {
        if (!hasLine(at) || column < 0 || column > textOf(lines, at).size()) {
            throw new IndexOutOfBoundsException();
        }
        if (code < 32 || code > 126) {
            throw new IllegalArgumentException();
        }
        Text text = textOf(lines, at);
        if (text.size() >= MOST_SIGNS) {
            throw new IllegalStateException();
        }
        text.insert(column, (char) code);
        return text.size();
    }

    public int rub(int at, int column) throws IndexOutOfBoundsException {
        if (!hasSign(at, column)) {
            throw new IndexOutOfBoundsException();
        }
        return textOf(lines, at).takeOut(column);
    }

    public int cut(int at) throws IndexOutOfBoundsException {
        if (!hasLine(at)) {
            throw new IndexOutOfBoundsException();
        }
        shift(at, lineCount - 1);
        lineCount--;
        return lineCount;
    }

    public int move(int from, int to) throws IndexOutOfBoundsException {
        if (!hasLine(from) || !hasLine(to)) {
            throw new IndexOutOfBoundsException();
        }
        shift(from, to);
        return Math.abs(from - to);
    }

    public int clear() {
        int count = lineCount;
        lineCount = 0;
        return count;
    }

    public int tidy() {
        int changes = 0;
        for (int i = 0; i < lineCount; i++) {
            Text text = textOf(lines, i);
            writeFormOf(text);
            if (!out.same(text)) {
                text.become(out);
                changes++;
            }
        }
        return changes;
    }

    public int flatten() {
        Expander expander = spare.expander;
        expander.expand(lines, lineCount, NONE, out);
        takeFault(expander);
        if (faultCode == 0) {
            lineCount = expander.flatCount();
            for (int i = 0; i < lineCount; i++) {
                expander.writeFlat(i, textOf(lines, i));
            }
        }
        return faultCode;
    }

    public int assemble() {
        build(NONE);
        takeFault(spare.expander);
        if (faultCode == 0) {
            if (made) {
                old.become(image.memory);
            }
            Assembly done = spare;
            spare = image;
            image = done;
            made = true;
        }
        return faultCode;
    }

    public int knock() {
        refused++;
        return refused;
    }

    // ---- source, faults

    public int lines() {
        return lineCount;
    }

    public int length(int at) throws IndexOutOfBoundsException {
        if (!hasLine(at)) {
            throw new IndexOutOfBoundsException();
        }
        return textOf(lines, at).size();
    }

    public int signAt(int at, int column) throws IndexOutOfBoundsException {
        if (!hasSign(at, column)) {
            throw new IndexOutOfBoundsException();
        }
        return textOf(lines, at).at(column);
    }

    public String text(int at) throws IndexOutOfBoundsException {
        if (!hasLine(at)) {
            throw new IndexOutOfBoundsException();
        }
        return textOf(lines, at).told();
    }

    public String form(int at) throws IndexOutOfBoundsException {
        if (!hasLine(at)) {
            throw new IndexOutOfBoundsException();
        }
        writeFormOf(textOf(lines, at));
        return out.told();
    }

    public int token(int at, int place, int what) throws IndexOutOfBoundsException, IllegalArgumentException {
        if (!hasLine(at) || place < 0 || place >= tokensOf(at)) {
            throw new IndexOutOfBoundsException();
        }
        if (what < 0 || what > 3) {
            throw new IllegalArgumentException();
        }
        return factOfToken(place, what);
    }

    public int tokens(int at) throws IndexOutOfBoundsException {
        if (!hasLine(at)) {
            throw new IndexOutOfBoundsException();
        }
        return tokensOf(at);
    }

    public int fault(int what) throws IllegalArgumentException {
        if (what < 0 || what > 2) {
            throw new IllegalArgumentException();
        }
        return what == 0 ? faultCode : what == 1 ? faultLine : faultColumn;
    }

    // ---- what was assembled last

    public int flatLines() throws IllegalStateException {
        if (!made) {
            throw new IllegalStateException();
        }
        return image.expander.flatCount();
    }

    public String flat(int at) throws IllegalStateException, IndexOutOfBoundsException {
        if (!made) {
            throw new IllegalStateException();
        }
        if (!hasFlat(at)) {
            throw new IndexOutOfBoundsException();
        }
        image.expander.writeFlat(at, out);
        return out.told();
    }

    public int ofFlat(int at, int what)
        throws IllegalStateException, IndexOutOfBoundsException, IllegalArgumentException {
        if (!made) {
            throw new IllegalStateException();
        }
        if (!hasFlat(at)) {
            throw new IndexOutOfBoundsException();
        }
        if (what < 0 || what > 11) {
            throw new IllegalArgumentException();
        }
        return image.factOfFlat(at, what);
    }

    public String row(int at) throws IllegalStateException, IndexOutOfBoundsException {
        if (!made) {
            throw new IllegalStateException();
        }
        if (!hasFlat(at)) {
            throw new IndexOutOfBoundsException();
        }
        image.writeListing(at, out);
        return out.told();
    }

    public int image(int what) throws IllegalStateException, IllegalArgumentException {
        if (!made) {
            throw new IllegalStateException();
        }
        if (what < 0 || what > 9) {
            throw new IllegalArgumentException();
        }
        return image.factOfAll(what);
    }

    public int byteAt(int address) throws IllegalStateException, IllegalArgumentException {
        if (!made) {
            throw new IllegalStateException();
        }
        if (address < 0 || address > MOST_NUMBER) {
            throw new IllegalArgumentException();
        }
        return image.memory.cellAt(address);
    }

    public int part(int part, int what)
        throws IllegalStateException, IndexOutOfBoundsException, IllegalArgumentException {
        if (!made) {
            throw new IllegalStateException();
        }
        if (part < 0 || part >= PARTS) {
            throw new IndexOutOfBoundsException();
        }
        if (what < 0 || what > 5) {
            throw new IllegalArgumentException();
        }
        return image.factOfPart(part, what);
    }

    public String symbol(int at) throws IllegalStateException, IndexOutOfBoundsException {
        if (!made) {
            throw new IllegalStateException();
        }
        if (!hasSymbol(at)) {
            throw new IndexOutOfBoundsException();
        }
        image.writeSymbol(at, out);
        return out.told();
    }

    public int ofSymbol(int at, int what)
        throws IllegalStateException, IndexOutOfBoundsException, IllegalArgumentException {
        if (!made) {
            throw new IllegalStateException();
        }
        if (!hasSymbol(at)) {
            throw new IndexOutOfBoundsException();
        }
        if (what < 0 || what > 6) {
            throw new IllegalArgumentException();
        }
        return image.factOfSymbol(at, what);
    }

    public int use(int at, int place) throws IllegalStateException, IndexOutOfBoundsException {
        if (!made) {
            throw new IllegalStateException();
        }
        int flat = hasSymbol(at) && place >= 0 ? image.userOf(at, place) : NONE;
        if (flat == NONE) {
            throw new IndexOutOfBoundsException();
        }
        return flat;
    }

    public int moves(int base) throws IllegalStateException, IllegalArgumentException {
        if (!made) {
            throw new IllegalStateException();
        }
        if (base < NONE || base > 200) {
            throw new IllegalArgumentException();
        }
        return image.memory.movesWith(base);
    }

    public int ofMove(int at, int what)
        throws IllegalStateException, IndexOutOfBoundsException, IllegalArgumentException {
        if (!made) {
            throw new IllegalStateException();
        }
        if (at < 0 || at >= image.memory.moveCount()) {
            throw new IndexOutOfBoundsException();
        }
        if (what < 0 || what > 3) {
            throw new IllegalArgumentException();
        }
        return image.memory.factOfMove(at, what);
    }

    public int literal(int part, int place, int what)
        throws IllegalStateException, IndexOutOfBoundsException, IllegalArgumentException {
        if (!made) {
            throw new IllegalStateException();
        }
        int found = part < 0 || part >= PARTS || place < 0 ? NONE : image.literalAt(part, place);
        if (found == NONE) {
            throw new IndexOutOfBoundsException();
        }
        if (what < 0 || what > 2) {
            throw new IllegalArgumentException();
        }
        return image.factOfLiteral(found, what);
    }

    public int jumps(int what) throws IllegalStateException, IllegalArgumentException {
        if (!made) {
            throw new IllegalStateException();
        }
        if (what < 0 || what > 4) {
            throw new IllegalArgumentException();
        }
        return image.factOfJumps(what);
    }

    public int reach(int at) throws IllegalStateException, IndexOutOfBoundsException, IllegalArgumentException {
        if (!made) {
            throw new IllegalStateException();
        }
        if (!hasFlat(at)) {
            throw new IndexOutOfBoundsException();
        }
        if (!image.expander.flatAt(at).shortable) {
            throw new IllegalArgumentException();
        }
        return image.reachNow(at);
    }

    public int changed(int what) throws IllegalStateException, IllegalArgumentException {
        if (!made) {
            throw new IllegalStateException();
        }
        if (what < 0 || what > 2) {
            throw new IllegalArgumentException();
        }
        return old.difference(image.memory, what);
    }

    public boolean mayChangePlaces(int stretch) throws IllegalStateException, IndexOutOfBoundsException {
        if (!made) {
            throw new IllegalStateException();
        }
        if (stretch < 0 || stretch >= image.stretches() - 1) {
            throw new IndexOutOfBoundsException();
        }
        return image.haveNoNameInCommon(stretch);
    }

    // ---- what would be

    public int trial(int at, int label, int order, int shape, int x, int y)
        throws IndexOutOfBoundsException, IllegalArgumentException {
        if (!hasLine(at)) {
            throw new IndexOutOfBoundsException();
        }
        if (!isLine(label, order, shape, x, y)) {
            throw new IllegalArgumentException();
        }
        build(NONE);
        if (spare.expander.faultCode() != 0) {
            return -spare.expander.faultCode();
        }
        before.become(spare.memory);
        writeLine(out, label, order, shape, x, y);
        build(at);
        if (spare.expander.faultCode() != 0) {
            return -spare.expander.faultCode();
        }
        return before.difference(spare.memory, 0);
    }

    public int value(int shape, int x, int y, int what) throws IllegalStateException, IllegalArgumentException {
        if (!made) {
            throw new IllegalStateException();
        }
        if (shape < 1 || shape == 2 || shape > 8 || !isAtom(x) || !isAtom(y) || what < 0 || what > 2) {
            throw new IllegalArgumentException();
        }
        int code = reckonShape(shape, x, y);
        if (what == 0) {
            return code;
        }
        Reckoner reckoner = image.expander.reckoner;
        if (code != 0) {
            return what == 1 ? 0 : NONE;
        }
        return what == 1 ? reckoner.number() : reckoner.base();
    }

    /*
     * The document names a THEOREM with five parts here and states none of them. What its own words tell of them is
     * looked at: the source in one form (1), STRETCHES that change places (2), the choice of SHORT jumps (3).
     */
    public boolean isSound() {
        if (!made) {
            return true;
        }
        boolean sound = image.jumpsAreLeast();
        int pairs = image.expander.flatCount() >= MOST_LINES ? 0 : image.stretches() - 1;
        for (int first = NONE; first < STRETCHES_LOOKED_AT && first < pairs && sound; first++) {
            if (first == NONE || image.haveNoNameInCommon(first)) {
                int count = image.writeExchanged(first, again);
                spare.expander.expand(again, count, NONE, out);
                spare.finish();
                sound = spare.expander.faultCode() == 0 && spare.memory.same(image.memory);
            }
        }
        return sound;
    }

    public long digest() {
        long d = mix(6401, lineCount);
        for (int i = 0; i < lineCount; i++) {
            Text text = textOf(lines, i);
            d = mix(d, text.size());
            writeFormOf(text);
            d = mixText(d);
            d = mix(d, tokensOf(i));
        }
        d = mix(mix(mix(d, faultCode), faultLine), faultColumn);
        d = mix(d, made ? 1 : 0);
        if (made) {
            d = mixFlats(d);
            d = mixParts(d);
            d = mixSymbols(d);
            d = mixRest(d);
        }
        return mix(d, isSound() ? 1 : 0);
    }

    private static long mix(long d, long v) {
        return d * 31 + v;
    }

    private long mixText(long d) {
        long mixed = d;
        for (int i = 0; i < out.size(); i++) {
            mixed = mix(mixed, out.at(i));
        }
        return mixed;
    }

    private long mixFlats(long d) {
        int count = image.expander.flatCount();
        long mixed = mix(d, count);
        for (int i = 0; i < count; i++) {
            for (int what = 0; what <= 11; what++) {
                mixed = mix(mixed, image.factOfFlat(i, what));
            }
            image.writeListing(i, out);
            mixed = mixText(mixed);
        }
        for (int what = 0; what <= 9; what++) {
            mixed = mix(mixed, image.factOfAll(what));
        }
        return mixed;
    }

    private long mixParts(long d) {
        long mixed = d;
        for (int part = 0; part < PARTS; part++) {
            for (int what = 0; what <= 5; what++) {
                mixed = mix(mixed, image.factOfPart(part, what));
            }
            int start = image.factOfPart(part, 0);
            int end = start + image.factOfPart(part, 1);
            for (int address = start; address < end; address++) {
                mixed = mix(mixed, image.memory.cellAt(address));
            }
            int literals = image.factOfPart(part, 5);
            for (int place = 0; place < literals; place++) {
                int found = image.literalAt(part, place);
                for (int what = 0; what <= 2; what++) {
                    mixed = mix(mixed, image.factOfLiteral(found, what));
                }
            }
        }
        return mixed;
    }

    private long mixSymbols(long d) {
        long mixed = d;
        for (int i = 0; i < image.symbolCount(); i++) {
            image.writeSymbol(i, out);
            mixed = mixText(mixed);
            for (int what = 0; what <= 6; what++) {
                mixed = mix(mixed, image.factOfSymbol(i, what));
            }
            for (int flat = 0; flat < image.expander.flatCount(); flat++) {
                if (image.usesSymbol(flat, i)) {
                    mixed = mix(mixed, flat);
                }
            }
        }
        return mixed;
    }

    private long mixRest(long d) {
        long mixed = d;
        for (int i = 0; i < image.memory.moveCount(); i++) {
            for (int what = 0; what <= 3; what++) {
                mixed = mix(mixed, image.memory.factOfMove(i, what));
            }
        }
        for (int what = 0; what <= 4; what++) {
            mixed = mix(mixed, image.factOfJumps(what));
        }
        for (int what = 0; what <= 2; what++) {
            mixed = mix(mixed, old.difference(image.memory, what));
        }
        return mixed;
    }

    private boolean hasLine(int at) {
        return at >= 0 && at < lineCount;
    }

    private boolean hasSign(int at, int column) {
        return hasLine(at) && column >= 0 && column < textOf(lines, at).size();
    }

    private boolean hasFlat(int at) {
        return at >= 0 && at < image.expander.flatCount();
    }

    private boolean hasSymbol(int at) {
        return at >= 0 && at < image.symbolCount();
    }

    /** The text at a place; it is made where none was needed so far. */
    private static Text textOf(Text[] texts, int at) {
        if (at < 0 || at >= texts.length) {
            return new Text();
        }
        Text text = texts[at];
        if (text == null) {
            text = new Text();
            texts[at] = text;
        }
        return text;
    }

    /** Takes the text at one place out and puts it in at another one; those between go one on or back. */
    private void shift(int from, int to) {
        if (from < 0 || from >= lines.length || to < 0 || to >= lines.length) {
            return;
        }
        Text moved = lines[from];
        if (from < to) {
            System.arraycopy(lines, from + 1, lines, from, to - from);
        } else {
            System.arraycopy(lines, to, lines, to + 1, from - to);
        }
        lines[to] = moved;
    }

    /** Assembles the SOURCE in the spare assembly, with what is in out in place of one line (or of none). */
    private void build(int replaced) {
        spare.expander.expand(lines, lineCount, replaced, out);
        spare.finish();
    }

    private void takeFault(Expander expander) {
        faultCode = expander.faultCode();
        faultLine = expander.faultLine();
        faultColumn = expander.faultColumn(out);
    }

    /** Reads the TOKENS of a line; answers how many, or minus the code of the fault. */
    private int tokensOf(int at) {
        return readTokens(textOf(lines, at));
    }

    private int readTokens(Text text) {
        scan.restart();
        int count = scan.read(text);
        scanned.start = 0;
        scanned.count = Math.max(count, 0);
        return count;
    }

    private void writeFormOf(Text text) {
        if (readTokens(text) < 0) {
            out.become(text);
        } else {
            scan.writeForm(scanned, scanned.count, out);
        }
    }

    /** Tells something of a TOKEN of the line that was read last. */
    private int factOfToken(int place, int what) {
        int kind = scan.kindAt(scanned, place);
        if (what == 0) {
            return kind;
        }
        if (what == 3) {
            return kind == NUMBER || kind == SIGN ? scan.worthAt(scanned, place) : 0;
        }
        scan.writeForm(scanned, place, out);
        int column = out.size();
        scan.writeToken(scanned, place, out);
        return what == 1 ? column : out.size() - column;
    }

    // ---- texts from numbers

    private static boolean isAtom(int atom) {
        return atom >= 0 && atom <= 999 || atom >= 1000 && atom <= 1025 || atom >= 1100 && atom <= 1125
            || atom >= 1201 && atom <= 1203 || atom == 1300 || atom >= 2000 && atom <= 2255;
    }

    private static boolean isParameter(int atom) {
        return atom >= 1201 && atom <= 1203;
    }

    private static boolean isLine(int label, int order, int shape, int x, int y) {
        boolean isOrder = order >= 0 && order <= 19 || order >= 101 && order <= 126;
        return label >= 0 && label <= 52 && isOrder && shape >= 0 && shape <= 10 && isAtom(x) && isAtom(y);
    }

    private static void writeLine(Text to, int label, int order, int shape, int x, int y) {
        to.wipe();
        if (label > 26) {
            to.add('@');
        }
        if (label > 0) {
            to.add((char) ('a' + (label - 1) % 26));
            to.add(':');
        }
        if (order > 0) {
            writeGap(to);
            if (order > 100) {
                to.add((char) ('a' + order - 101));
            } else {
                writeWord(to, order);
            }
        }
        if (shape > 0) {
            writeGap(to);
            writeShape(to, shape, x, y);
        }
    }

    private static void writeGap(Text to) {
        if (to.size() > 0) {
            to.add(' ');
        }
    }

    private static void writeWord(Text to, int word) {
        int number = 1;
        for (int i = 0; i < WORDS.length(); i++) {
            char sign = WORDS.charAt(i);
            if (sign == ' ') {
                number++;
            } else if (number == word) {
                to.add(sign);
            }
        }
    }

    private static void writeShape(Text to, int shape, int x, int y) {
        if (shape == 7) {
            to.add('(');
        }
        if (shape == 8) {
            to.add('-');
        }
        if (shape >= 9) {
            to.add('=');
        }
        writeAtom(to, x);
        char between = signBetween(shape);
        if (between != 0) {
            to.add(between);
            writeAtom(to, y);
        }
        if (shape == 7) {
            to.addAll(")*2");
        }
    }

    /** The sign that a SHAPE has between its ATOMS, 0 where it has just one of them. */
    private static char signBetween(int shape) {
        switch (shape) {
            case 2:
                return ',';
            case 3:
            case 7:
            case 10:
                return '+';
            case 4:
                return '-';
            case 5:
                return '*';
            case 6:
                return '/';
            default:
                return 0;
        }
    }

    private static void writeAtom(Text to, int atom) {
        if (atom >= 2000) {
            to.add('$');
            to.addHex(atom - 2000, atom > 2015 ? 2 : 1);
        } else if (atom == 1300) {
            to.add('.');
        } else if (atom > 1200) {
            to.add('%');
            to.addNumber(atom - 1200);
        } else if (atom >= 1000) {
            if (atom >= 1100) {
                to.add('@');
            }
            to.add((char) ('a' + atom % 100));
        } else {
            to.addNumber(atom);
        }
    }

    // ---- an EXPRESSION by the SYMBOLS of the IMAGE

    /** Reckons a SHAPE; answers the code of the fault, or 0 where the VALUE is with the image's reckoner. */
    private int reckonShape(int shape, int x, int y) {
        char between = signBetween(shape);
        if (isParameter(x) || between != 0 && isParameter(y)) {
            return FAULT_ARGUMENT;
        }
        Reckoner reckoner = image.expander.reckoner;
        reckoner.forget();
        int code = pushAtom(x);
        if (code == 0 && shape == 8) {
            code = reckoner.negate();
        }
        if (code == 0 && between != 0) {
            code = pushAtom(y);
            if (code == 0) {
                code = reckoner.join(between);
            }
        }
        if (code == 0 && shape == 7) {
            reckoner.push(2, NONE);
            code = reckoner.join('*');
        }
        return code;
    }

    private int pushAtom(int atom) {
        Reckoner reckoner = image.expander.reckoner;
        if (atom < 1000) {
            reckoner.push(atom, NONE);
            return 0;
        }
        if (atom >= 2000) {
            reckoner.push(atom - 2000, NONE);
            return 0;
        }
        if (atom == 1300) {
            return FAULT_KNOWN;
        }
        out.wipe();
        out.add((char) ('a' + atom % 100));
        if (atom >= 1100) {
            out.addAll("_0");
        }
        int found = image.symbolNamed(out);
        if (found == NONE) {
            return FAULT_UNKNOWN;
        }
        Name name = image.symbolAt(found);
        reckoner.push(name.number, name.base);
        return 0;
    }

    /** A row of numbers that grows as it needs. */
    private static final class Ints {
        private int[] all = new int[64];
        private int count;

        int size() {
            return count;
        }

        int at(int place) {
            return place >= 0 && place < count ? all[place] : 0;
        }

        void add(int number) {
            if (count >= all.length && count < MOST_ROOM) {
                all = Arrays.copyOf(all, count * 2);
            }
            if (count < all.length) {
                all[count] = number;
                count++;
            }
        }

        void insert(int place, int number) {
            if (place < 0 || place > count) {
                return;
            }
            if (count >= all.length && count < MOST_ROOM) {
                all = Arrays.copyOf(all, count * 2);
            }
            if (count < all.length) {
                System.arraycopy(all, place, all, place + 1, count - place);
                all[place] = number;
                count++;
            }
        }

        void cutTo(int size) {
            if (size >= 0 && size < count) {
                count = size;
            }
        }
    }

    /** A text that can be changed. */
    private static final class Text {
        private byte[] signs = new byte[32];
        private int count;

        int size() {
            return count;
        }

        /** The code of the sign at a place, 0 where none stands. */
        int at(int place) {
            return place >= 0 && place < count ? signs[place] : 0;
        }

        void wipe() {
            count = 0;
        }

        void add(char sign) {
            if (count >= signs.length && count < MOST_ROOM) {
                signs = Arrays.copyOf(signs, count * 2);
            }
            if (count < signs.length) {
                signs[count] = (byte) sign;
                count++;
            }
        }

        void addAll(String text) {
            for (int i = 0; i < text.length(); i++) {
                add(text.charAt(i));
            }
        }

        void addPiece(Text other, int from, int size) {
            if (from < 0 || size <= 0 || size > other.count - from || size > MOST_ROOM - count) {
                return;
            }
            if (count + size > signs.length) {
                signs = Arrays.copyOf(signs, (count + size) * 2);
            }
            System.arraycopy(other.signs, from, signs, count, size);
            count += size;
        }

        void addNumber(int number) {
            boolean begun = false;
            for (int unit = 10000; unit > 0; unit /= 10) {
                int digit = number / unit % 10;
                begun = begun || digit > 0 || unit == 1;
                if (begun) {
                    add((char) ('0' + digit));
                }
            }
        }

        void addHex(int number, int digits) {
            for (int shift = 4 * (digits - 1); shift >= 0; shift -= 4) {
                int digit = number >> shift & 15;
                add((char) (digit < 10 ? '0' + digit : 'a' + digit - 10));
            }
        }

        void insert(int place, char sign) {
            int last = count;
            add(sign);
            if (place >= 0 && place < last && count > last) {
                System.arraycopy(signs, place, signs, place + 1, last - place);
                signs[place] = (byte) sign;
            }
        }

        int takeOut(int place) {
            if (place < 0 || place >= count) {
                return 0;
            }
            int sign = signs[place];
            System.arraycopy(signs, place + 1, signs, place, count - place - 1);
            count--;
            return sign;
        }

        void become(Text other) {
            count = 0;
            addPiece(other, 0, other.count);
        }

        boolean same(Text other) {
            return count == other.count && samePiece(0, other, 0, count);
        }

        /** Whether so many signs from a place on are those of another text from a place on. */
        boolean samePiece(int from, Text other, int otherFrom, int size) {
            if (from < 0 || otherFrom < 0 || size > count - from || size > other.count - otherFrom) {
                return false;
            }
            for (int i = 0; i < size; i++) {
                if (signs[from + i] != other.signs[otherFrom + i]) {
                    return false;
                }
            }
            return true;
        }

        String told() {
            char[] exact = new char[count];
            for (int i = 0; i < count; i++) {
                exact[i] = (char) signs[i];
            }
            return new String(exact);
        }
    }

    /** What is known of a NAME (or of the text of a REMARK) while one source is assembled. */
    private static final class Name {
        private int from;
        private int size;
        private int next;
        private int known;
        private int told;
        private int bodyFrom;
        private int bodyTo;
        private int kind;
        private int flat;
        private int weakFlat;
        private boolean shared;
        private boolean ready;
        private int number;
        private int base;

        void begin(int itsFrom, int itsSize, int itsNext) {
            from = itsFrom;
            size = itsSize;
            next = itsNext;
            known = NOT_LET;
            told = 0;
            bodyFrom = NONE;
            bodyTo = NONE;
            kind = 0;
            flat = NONE;
            weakFlat = NONE;
            shared = false;
            ready = false;
            number = 0;
            base = NONE;
        }

        void become(int itsNumber, int itsBase) {
            number = itsNumber;
            base = itsBase;
            ready = true;
        }
    }

    /** A row of TOKENS: where it stands among all TOKENS, the number of its line, the word that its ORDER WORD is. */
    private static final class Row {
        private int start;
        private int count;
        private int line;
        private int word;
    }

    /** All TOKENS of one source, each a number (8 * what it says + its kind), and the NAMES in them. */
    private static final class Tokens {
        private static final int SLOTS = 128;
        private int[] all = new int[256];
        private int count;
        private final ArrayList<Name> names = new ArrayList<Name>();
        private int nameCount;
        private final Name nobody = new Name();
        private final Text letters = new Text();
        private final int[] heads = new int[SLOTS];
        private final Text scrap = new Text();
        private int illCode;
        private int illColumn;

        void restart() {
            nameCount = 0;
            letters.wipe();
            Arrays.fill(heads, NONE);
            // The words come first, so that the number of such a NAME tells the word.
            scrap.wipe();
            scrap.addAll(WORDS);
            read(scrap);
            count = 0;
        }

        int size() {
            return count;
        }

        void cutTo(int size) {
            count = Math.max(0, Math.min(count, size));
        }

        boolean isFull() {
            return count >= MOST_ROOM || letters.size() >= MOST_ROOM / 2;
        }

        /** Puts the TOKENS of a text behind the others; answers how many, or minus the code of the fault. */
        int read(Text text) {
            int first = count;
            int at = 0;
            while (at < text.size()) {
                if (text.at(at) == ' ') {
                    at++;
                    continue;
                }
                if (text.at(at) == ';') {
                    readRemark(text, at + 1);
                    break;
                }
                illCode = FAULT_SIGN;
                int end = readOne(text, at);
                if (end <= at) {
                    illColumn = at;
                    count = first;
                    return -illCode;
                }
                at = end;
            }
            return count - first;
        }

        int illColumn() {
            return illColumn;
        }

        /** Reads the TOKEN that begins at a sign; answers where it ends, or NONE where nothing begins. */
        private int readOne(Text text, int at) {
            int sign = text.at(at);
            if (isLetter(sign)) {
                int end = wordEnd(text, at);
                add(NAME, nameOf(text, at, end));
                return end;
            }
            if (sign == '@' && isLetter(text.at(at + 1))) {
                int end = wordEnd(text, at + 1);
                add(LOCAL, nameOf(text, at + 1, end));
                return end;
            }
            if (sign == '%' && text.at(at + 1) >= '1' && text.at(at + 1) <= '3') {
                add(PARAMETER, text.at(at + 1) - '0');
                return at + 2;
            }
            if (sign == '$') {
                return readNumber(text, at + 1, 16);
            }
            if (isDigit(sign)) {
                return readNumber(text, at, 10);
            }
            if (SIGNS.indexOf((char) sign) >= 0) {
                add(SIGN, sign);
                return at + 1;
            }
            return NONE;
        }

        private int readNumber(Text text, int from, int base) {
            int number = 0;
            int at = from;
            while (at < text.size()) {
                int digit = digitOf(text.at(at), base);
                if (digit == NONE) {
                    break;
                }
                number = Math.min(number * base + digit, MOST_NUMBER + 1);
                at++;
            }
            if (at == from) {
                return NONE;
            }
            if (number > MOST_NUMBER) {
                illCode = FAULT_NUMBER;
                return NONE;
            }
            add(NUMBER, number);
            return at;
        }

        private void readRemark(Text text, int begin) {
            int from = begin;
            int to = text.size();
            while (from < to && text.at(from) == ' ') {
                from++;
            }
            while (from < to && text.at(to - 1) == ' ') {
                to--;
            }
            add(REMARK, nameOf(text, from, to));
        }

        private static boolean isLetter(int sign) {
            return sign >= 'a' && sign <= 'z';
        }

        private static boolean isDigit(int sign) {
            return sign >= '0' && sign <= '9';
        }

        private static int digitOf(int sign, int base) {
            if (sign >= '0' && sign <= '9') {
                return sign - '0';
            }
            return base == 16 && sign >= 'a' && sign <= 'f' ? sign - 'a' + 10 : NONE;
        }

        private static int wordEnd(Text text, int from) {
            int end = from;
            while (end < text.size() && (isLetter(text.at(end)) || isDigit(text.at(end)) || text.at(end) == '_')) {
                end++;
            }
            return end;
        }

        void add(int kind, int worth) {
            if (count >= all.length && count < MOST_ROOM) {
                all = Arrays.copyOf(all, count * 2);
            }
            if (count < all.length) {
                all[count] = worth * 8 + kind;
                count++;
            }
        }

        /** Puts TOKENS that stand somewhere behind the others once more. */
        void addAgain(int from, int to) {
            for (int i = Math.max(from, 0); i < to && i < count; i++) {
                add(all[i] & 7, all[i] >> 3);
            }
        }

        /** The number of the NAME that so many signs of a text are. */
        private int nameOf(Text text, int from, int to) {
            int hash = 0;
            for (int i = from; i < to; i++) {
                hash = hash * 31 + text.at(i);
            }
            int slot = hash & SLOTS - 1;
            int found = heads[slot];
            for (int step = 0; step < nameCount && found != NONE; step++) {
                Name name = named(found);
                if (name.size == to - from && letters.samePiece(name.from, text, from, name.size)) {
                    return found;
                }
                found = name.next;
            }
            if (nameCount >= names.size()) {
                names.add(new Name());
            }
            names.get(nameCount).begin(letters.size(), to - from, heads[slot]);
            letters.addPiece(text, from, to - from);
            heads[slot] = nameCount;
            nameCount++;
            return nameCount - 1;
        }

        /** The number of the NAME x_k that a LOCAL @x becomes. */
        int localName(int local, int expansion) {
            Name name = named(local);
            scrap.wipe();
            scrap.addPiece(letters, name.from, name.size);
            scrap.add('_');
            scrap.addNumber(expansion);
            return nameOf(scrap, 0, scrap.size());
        }

        Name named(int number) {
            return number >= 0 && number < nameCount && number < names.size() ? names.get(number) : nobody;
        }

        boolean isNamed(Name name, Text text) {
            return name.size == text.size() && letters.samePiece(name.from, text, 0, name.size);
        }

        boolean isAhead(Name name, Name other) {
            int size = Math.min(name.size, other.size);
            for (int i = 0; i < size; i++) {
                int sign = letters.at(name.from + i);
                int otherSign = letters.at(other.from + i);
                if (sign != otherSign) {
                    return sign < otherSign;
                }
            }
            return name.size < other.size;
        }

        /** 8 * what a TOKEN says + its kind, 0 where the row has none. */
        int tokenAt(Row row, int place) {
            int at = row.start + place;
            return place >= 0 && place < row.count && at >= 0 && at < count ? all[at] : 0;
        }

        /** The kind of a TOKEN, 0 where the row has none. */
        int kindAt(Row row, int place) {
            return tokenAt(row, place) & 7;
        }

        /** What a TOKEN says: a NUMBER that number, a SIGN its code, a PARAMETER which, else the number of a NAME. */
        int worthAt(Row row, int place) {
            return tokenAt(row, place) >> 3;
        }

        boolean isSign(Row row, int place, char sign) {
            return tokenAt(row, place) == sign * 8 + SIGN;
        }

        Name nameAt(Row row, int place) {
            int token = tokenAt(row, place);
            return (token & 7) == NAME ? named(token >> 3) : nobody;
        }

        /** The place of the first TOKEN of a kind, NONE without one. */
        int firstOf(Row row, int kind) {
            for (int place = 0; place < row.count; place++) {
                if (kindAt(row, place) == kind) {
                    return place;
                }
            }
            return NONE;
        }

        /** The place behind LABEL and ":", or the first one. */
        int orderPlace(Row row) {
            int kind = tokenAt(row, 0) & 7;
            boolean names = kind == NAME || kind == LOCAL || kind == PARAMETER;
            return names && tokenAt(row, 1) == ':' * 8 + SIGN ? 2 : 0;
        }

        /** The number of the word that the NAME at a place is, 0 where it is none. */
        int wordAt(Row row, int place) {
            int token = tokenAt(row, place);
            int name = token >> 3;
            return (token & 7) == NAME && name < ELSE ? name + 1 : 0;
        }

        /** Each LOCAL of a row becomes the NAME that it is in an EXPANSION. */
        void nameLocals(Row row, int expansion) {
            for (int place = 0; place < row.count; place++) {
                int token = tokenAt(row, place);
                int at = row.start + place;
                if ((token & 7) == LOCAL && at >= 0 && at < count) {
                    all[at] = localName(token >> 3, expansion) * 8 + NAME;
                }
            }
        }

        /** Writes the FORM of a row as far as a place: what is written then is as long as the COLUMN of that place. */
        void writeForm(Row row, int upTo, Text to) {
            to.wipe();
            addForm(row, upTo, to);
        }

        void addForm(Row row, int upTo, Text to) {
            int order = orderPlace(row);
            for (int place = 0; place < row.count && place <= upTo; place++) {
                if (place > 0 && isBlankAhead(row, place, order)) {
                    to.add(' ');
                }
                if (place < upTo) {
                    writeToken(row, place, to);
                }
            }
        }

        private boolean isBlankAhead(Row row, int place, int order) {
            int left = kindAt(row, place - 1);
            int right = kindAt(row, place);
            if (right == REMARK || isSign(row, place - 1, ':') || isSign(row, place - 1, ',')) {
                return true;
            }
            if (place - 1 == order && (left == NAME || left == PARAMETER)) {
                return true;
            }
            return left <= NUMBER && right <= NUMBER;
        }

        void writeToken(Row row, int place, Text to) {
            int worth = worthAt(row, place);
            switch (kindAt(row, place)) {
                case NAME:
                    writeName(named(worth), to);
                    break;
                case LOCAL:
                    to.add('@');
                    writeName(named(worth), to);
                    break;
                case PARAMETER:
                    to.add('%');
                    to.addNumber(worth);
                    break;
                case NUMBER:
                    to.addNumber(worth);
                    break;
                case SIGN:
                    to.add((char) worth);
                    break;
                case REMARK:
                    to.addAll(named(worth).size > 0 ? "; " : ";");
                    writeName(named(worth), to);
                    break;
                default:
                    break;
            }
        }

        void writeName(Name name, Text to) {
            to.addPiece(letters, name.from, name.size);
        }
    }

    /** Reads EXPRESSIONS and reckons them. */
    private static final class Reckoner {
        private static final int MOST_WAITING = 32;
        private final Tokens tokens = new Tokens();
        // In the order in which they are reckoned: 2 * place in the row, and 1 more for a "-" before a FACTOR.
        private final Ints steps = new Ints();
        private final int[] waiting = new int[MOST_WAITING];
        private int waitingCount;
        private int inside;
        private final int[] numbers = new int[MOST_WAITING];
        private final int[] bases = new int[MOST_WAITING];
        private int count;
        private int missCode;
        private int missPlace;

        int missCode() {
            return missCode;
        }

        int missPlace() {
            return missPlace;
        }

        int number() {
            return count > 0 && count <= MOST_WAITING ? numbers[count - 1] : 0;
        }

        int base() {
            return count > 0 && count <= MOST_WAITING ? bases[count - 1] : NONE;
        }

        private int miss(int code, int place) {
            missCode = code;
            missPlace = place;
            return NONE;
        }

        /** Reads the EXPRESSION that begins at a place; answers the place behind it, or NONE with a fault. */
        int parse(Row row, int from) {
            steps.cutTo(0);
            waitingCount = 0;
            inside = 0;
            int parens = 0;
            boolean wantsFactor = true;
            for (int place = from; place < row.count; place++) {
                int token = tokens.tokenAt(row, place);
                int kind = token & 7;
                int sign = kind == SIGN ? token >> 3 : 0;
                if (wantsFactor) {
                    if (sign == '(' || sign == '-') {
                        if (inside >= MOST_INSIDE) {
                            return miss(FAULT_DEEP, place);
                        }
                        inside++;
                        parens += sign == '(' ? 1 : 0;
                        hold(place, sign == '(' ? RANK_OPEN : RANK_MINUS);
                    } else if (kind == NUMBER || kind == NAME || sign == '.') {
                        steps.add(place * 2);
                        wantsFactor = false;
                    } else {
                        return miss(FAULT_LINE, place);
                    }
                } else if (sign == ')' && parens > 0) {
                    release(RANK_ADD);
                    waitingCount--;
                    inside--;
                    parens--;
                } else if (rankOf(sign) != RANK_OPEN) {
                    release(rankOf(sign));
                    hold(place, rankOf(sign));
                    wantsFactor = true;
                } else {
                    release(RANK_ADD);
                    return parens > 0 ? miss(FAULT_LINE, place) : place;
                }
            }
            release(RANK_ADD);
            return wantsFactor || parens > 0 ? miss(FAULT_LINE, row.count) : row.count;
        }

        /** How tightly a sign joins what is on its sides; RANK_OPEN where it joins nothing. */
        private static int rankOf(int sign) {
            if (sign == '+' || sign == '-') {
                return RANK_ADD;
            }
            return sign == '*' || sign == '/' ? RANK_MULTIPLY : RANK_OPEN;
        }

        private void hold(int place, int rank) {
            if (waitingCount >= 0 && waitingCount < MOST_WAITING) {
                waiting[waitingCount] = place * 4 + rank;
                waitingCount++;
            }
        }

        /** What waits and binds at least so tightly has both its sides now: it is reckoned next. */
        private void release(int rank) {
            while (waitingCount > 0 && waitingCount <= MOST_WAITING && (waiting[waitingCount - 1] & 3) >= rank) {
                waitingCount--;
                int held = waiting[waitingCount];
                boolean minus = (held & 3) == RANK_MINUS;
                inside -= minus ? 1 : 0;
                steps.add((held >> 2) * 2 + (minus ? 1 : 0));
            }
        }

        /**
         * Reckons what was read last; answers whether there was no fault. It is reckoned by KNOWN NAMES alone, or by
         * the SYMBOLS for a FLAT line at that OFFSET in that PART.
         */
        boolean reckon(Row row, boolean known, int offset, int part) {
            count = 0;
            for (int i = 0; i < steps.size(); i++) {
                int place = steps.at(i) >> 1;
                int token = tokens.tokenAt(row, place);
                int code = 0;
                if ((steps.at(i) & 1) != 0) {
                    code = negate();
                } else if ((token & 7) == NUMBER) {
                    push(token >> 3, NONE);
                } else if ((token & 7) == NAME) {
                    Name name = tokens.named(token >> 3);
                    if (known) {
                        code = name.known == LET_KNOWN ? 0 : FAULT_KNOWN;
                        push(name.told, NONE);
                    } else {
                        code = name.ready ? 0 : FAULT_UNKNOWN;
                        push(name.number, name.base);
                    }
                } else if (token >> 3 != '.') {
                    code = join(token >> 3);
                } else {
                    code = known ? FAULT_KNOWN : 0;
                    push(offset, part);
                }
                if (code != 0) {
                    miss(code, place);
                    return false;
                }
            }
            return true;
        }

        void forget() {
            count = 0;
        }

        void push(int number, int base) {
            if (count >= 0 && count < MOST_WAITING) {
                numbers[count] = number;
                bases[count] = base;
                count++;
            }
        }

        /** Reckons a "-" before a FACTOR; answers the code of the fault. */
        int negate() {
            if (count < 1 || count > MOST_WAITING) {
                return 0;
            }
            numbers[count - 1] = -numbers[count - 1];
            return bases[count - 1] != NONE ? FAULT_BASE : 0;
        }

        /** Reckons what a sign joins; answers the code of the fault. */
        int join(int sign) {
            if (count < 2 || count > MOST_WAITING) {
                return 0;
            }
            count--;
            int leftBase = bases[count - 1];
            int rightBase = bases[count];
            if (sign == '+' ? leftBase != NONE && rightBase != NONE
                : sign == '-' ? rightBase != NONE && rightBase != leftBase : leftBase != NONE || rightBase != NONE) {
                return FAULT_BASE;
            }
            long left = numbers[count - 1];
            long right = numbers[count];
            if (sign == '/' && right == 0) {
                return FAULT_ZERO;
            }
            long number = sign == '+' ? left + right : sign == '-' ? left - right
                : sign == '*' || right == 0 ? left * right : left / right;
            if (number > MOST_NUMBER || number < -MOST_NUMBER) {
                return FAULT_RANGE;
            }
            numbers[count - 1] = (int) number;
            if (rightBase != NONE) {
                bases[count - 1] = sign == '-' ? NONE : rightBase;
            }
            return 0;
        }
    }

    /** A FLAT line. */
    private static final class Flat {
        private Row row;
        private int expansion;
        private int part;
        private int word;
        private Name label;
        private int operands;
        private int expressions;
        private int told;
        private int offset;
        private boolean shortable;
        private int target;
        private boolean pooled;
        private int literal;
        private final int[] numbers = new int[MOST_EXPRESSIONS];
        private final int[] bases = new int[MOST_EXPRESSIONS];

        void begin(Row itsRow, int itsExpansion, int itsPart) {
            row = itsRow;
            expansion = itsExpansion;
            part = itsPart;
            word = itsRow.word;
            label = null;
            operands = 0;
            expressions = 0;
            told = 0;
            offset = 0;
            shortable = false;
            target = NONE;
            literal = NONE;
            Arrays.fill(numbers, 0);
            Arrays.fill(bases, NONE);
        }

        int number(int place) {
            return place >= 0 && place < MOST_EXPRESSIONS ? numbers[place] : 0;
        }

        int base(int place) {
            return place >= 0 && place < MOST_EXPRESSIONS ? bases[place] : NONE;
        }

        void become(int place, int number, int base) {
            if (place >= 0 && place < MOST_EXPRESSIONS) {
                numbers[place] = number;
                bases[place] = base;
            }
        }
    }

    /** Rows that are being HANDLED one after the other: the SOURCE, or a BODY and the rounds still to begin. */
    private static final class Frame {
        private int next;
        private int end;
        private int expansion;
        private int rounds;
        private int from;
        private int to;
        private boolean called;
        private Row row;
        private int order;
    }

    /** From a source to FLAT lines (section 3); it keeps the fault that was met, here or later. */
    private static final class Expander {
        private final Reckoner reckoner = new Reckoner();
        private final Tokens tokens = reckoner.tokens;
        private final ArrayList<Row> rows = new ArrayList<Row>();
        private int rowCount;
        private final ArrayList<Flat> flats = new ArrayList<Flat>();
        private int flatCount;
        private final Frame[] frames = new Frame[MOST_BODIES + 1];
        private int depth;
        private int expansions;
        private int macros;
        private int part;
        private int expressions;
        // Where each argument of the last macro call begins among all TOKENS, and where one more would.
        private final int[] argumentsFrom = new int[MOST_ARGUMENTS + 1];
        private int arguments;
        private int faultCode;
        private Row faultRow;
        private int faultLine;
        private int faultPlace;
        private final Row noRow = new Row();
        private final Flat noFlat = new Flat();

        int faultCode() {
            return faultCode;
        }

        int faultLine() {
            return faultLine;
        }

        /** The column of the fault; the text is one to write in. */
        int faultColumn(Text scrap) {
            if (faultRow == null) {
                return faultPlace;
            }
            tokens.writeForm(faultRow, faultPlace, scrap);
            return scrap.size();
        }

        int flatCount() {
            return flatCount;
        }

        int expansionCount() {
            return expansions;
        }

        int macroCount() {
            return macros;
        }

        Flat flatAt(int at) {
            return at >= 0 && at < flatCount && at < flats.size() ? flats.get(at) : noFlat;
        }

        void writeFlat(int at, Text to) {
            Row row = flatAt(at).row;
            to.wipe();
            tokens.addForm(row, row.count, to);
        }

        void fail(int code, Row row, int place) {
            faultCode = code;
            faultRow = row;
            faultLine = row.line;
            faultPlace = place;
        }

        /** A fault that is not of a row of TOKENS. */
        void failAt(int code, int line, int column) {
            faultCode = code;
            faultRow = null;
            faultLine = line;
            faultPlace = column;
        }

        /** Makes the FLAT lines of a source, with another text in place of one of its lines (or of none). */
        void expand(Text[] lines, int count, int replaced, Text other) {
            tokens.restart();
            rowCount = 0;
            flatCount = 0;
            depth = 0;
            expansions = 0;
            macros = 0;
            part = 0;
            noFlat.begin(noRow, 0, 0);
            failAt(0, NONE, 0);
            for (int i = 0; i < count && i < lines.length && faultCode == 0; i++) {
                Text text = i == replaced ? other : lines[i];
                if (text != null) {
                    addLine(tokens.read(text), i);
                }
            }
            Frame frame = pushFrame(noRow, 0);
            if (frame != null) {
                frame.end = rowCount;
            }
            for (int step = 0; step < MOST_STEPS && depth > 0 && faultCode == 0; step++) {
                frame = depth <= frames.length ? frames[depth - 1] : null;
                if (frame == null) {
                    return;
                }
                if (frame.next < frame.end) {
                    frame.next++;
                    handle(frame.next - 1, frame);
                } else if (frame.rounds > 0) {
                    beginRound(frame);
                } else {
                    depth--;
                }
            }
        }

        /** Makes a row of the TOKENS of a line that were read last. */
        private void addLine(int count, int line) {
            if (count < 0) {
                failAt(-count, line, tokens.illColumn());
                return;
            }
            Row row = addRow(tokens.size() - count, count, line);
            // A REMARK is left out at once: it is the last TOKEN and moves no COLUMN ahead of it.
            if (tokens.kindAt(row, count - 1) == REMARK) {
                row.count--;
            }
        }

        private Row addRow(int start, int count, int line) {
            Row row;
            if (rowCount < rows.size()) {
                row = rows.get(rowCount);
            } else {
                row = new Row();
                rows.add(row);
            }
            rowCount++;
            row.start = start;
            row.count = count;
            row.line = line;
            row.word = tokens.wordAt(row, tokens.orderPlace(row));
            return row;
        }

        private Row rowAt(int at) {
            return at >= 0 && at < rowCount && at < rows.size() ? rows.get(at) : noRow;
        }

        /** Takes a frame for the SOURCE, or for a BODY that a row asks for; answers null with a fault. */
        private Frame pushFrame(Row row, int order) {
            if (depth < 0 || depth >= frames.length) {
                fail(FAULT_DEEP, row, order);
                return null;
            }
            Frame frame = frames[depth];
            if (frame == null) {
                frame = new Frame();
                frames[depth] = frame;
            }
            depth++;
            frame.next = 0;
            frame.end = 0;
            frame.expansion = 0;
            frame.rounds = 0;
            frame.called = false;
            frame.row = row;
            frame.order = order;
            return frame;
        }

        /** Begins a new EXPANSION: makes the rows of a BODY ready, to be HANDLED next. */
        private void beginRound(Frame frame) {
            frame.rounds--;
            if (expansions >= MOST_EXPANSIONS) {
                fail(FAULT_DEEP, frame.row, frame.order);
                return;
            }
            expansions++;
            frame.expansion = expansions;
            frame.next = rowCount;
            for (int i = frame.from; i < frame.to && faultCode == 0; i++) {
                makeReady(rowAt(i), frame);
            }
            frame.end = rowCount;
        }

        private void makeReady(Row row, Frame frame) {
            int start = tokens.size();
            boolean changes = false;
            for (int place = 0; place < row.count; place++) {
                int kind = tokens.kindAt(row, place);
                int worth = tokens.worthAt(row, place);
                if (kind == PARAMETER && frame.called) {
                    if (worth < 1 || worth > arguments || worth > MOST_ARGUMENTS) {
                        fail(FAULT_ARGUMENT, row, place);
                        return;
                    }
                    tokens.addAgain(argumentsFrom[worth - 1], argumentsFrom[worth] - 1);
                    changes = true;
                } else if (kind == LOCAL) {
                    tokens.add(NAME, tokens.localName(worth, frame.expansion));
                    changes = true;
                } else {
                    tokens.add(kind, worth);
                }
            }
            if (tokens.isFull()) {
                fail(FAULT_LONG, row, 0);
            } else if (changes) {
                addRow(start, tokens.size() - start, row.line);
            } else {
                tokens.cutTo(start);
                addRow(row.start, row.count, row.line);
            }
        }

        private void handle(int at, Frame frame) {
            Row row = rowAt(at);
            if (frame.expansion == 0) {
                tokens.nameLocals(row, 0);
            }
            int parameter = tokens.firstOf(row, PARAMETER);
            if (parameter != NONE) {
                fail(FAULT_ARGUMENT, row, parameter);
                return;
            }
            int order = tokens.orderPlace(row);
            if (order >= row.count) {
                if (order > 0) {
                    addFlat(row, order, frame.expansion);
                }
                return;
            }
            Name name = tokens.nameAt(row, order);
            if (tokens.kindAt(row, order) != NAME) {
                fail(FAULT_LINE, row, order);
            } else if (row.word == 0 && name.bodyFrom == NONE) {
                fail(FAULT_ORDER, row, order);
            } else if (!labelStandsRight(row, order)) {
                return;
            } else if (row.word == 0) {
                callMacro(row, order, name, frame);
            } else if (expressionsOf(row.word) > 0 ? !expressionsAreRight(row, order) : !nameIsRight(row, order)) {
                return;
            } else if (hadToBeKnown(row.word) && !isKnownWithin(row, order)) {
                return;
            } else if (row.word <= WEAK) {
                addOrder(row, order, frame.expansion);
            } else {
                openBlock(at, order, frame);
            }
        }

        private boolean labelStandsRight(Row row, int order) {
            boolean must = row.word == LET || row.word == MACRO;
            boolean may = must || row.word <= STOP;
            if (must && order == 0) {
                fail(FAULT_LINE, row, order);
                return false;
            }
            if (!may && order > 0) {
                fail(FAULT_LINE, row, 0);
                return false;
            }
            return true;
        }

        /** How many EXPRESSIONS may stand behind a word. */
        private static int expressionsOf(int word) {
            switch (word) {
                case BYTE:
                case WORD:
                    return MOST_EXPRESSIONS;
                case STOP:
                case SHARE:
                case WANT:
                case WEAK:
                case MACRO:
                case END:
                case ELSE:
                    return 0;
                default:
                    return 1;
            }
        }

        /** Looks at what stands behind a word that asks for no EXPRESSION: one NAME, or nothing. */
        private boolean nameIsRight(Row row, int order) {
            int place = order + 1;
            boolean wantsName = row.word == SHARE || row.word == WANT || row.word == WEAK;
            boolean hasName = wantsName && tokens.kindAt(row, place) == NAME;
            expressions = 0;
            if (hasName) {
                place++;
            }
            if (hasName != wantsName || place < row.count) {
                fail(FAULT_LINE, row, place);
                return false;
            }
            return true;
        }

        private boolean expressionsAreRight(Row row, int order) {
            int most = expressionsOf(row.word);
            int at = row.word == LOAD && tokens.isSign(row, order + 1, '=') ? order + 2 : order + 1;
            for (expressions = 1; expressions <= most; expressions++) {
                at = reckoner.parse(row, at);
                if (at == NONE) {
                    fail(reckoner.missCode(), row, reckoner.missPlace());
                    return false;
                }
                if (at >= row.count) {
                    return true;
                }
                if (expressions == most || !tokens.isSign(row, at, ',')) {
                    break;
                }
                at++;
            }
            fail(FAULT_LINE, row, at);
            return false;
        }

        /** Makes the FLAT line of a row with one of the words byte to weak. */
        private void addOrder(Row row, int order, int expansion) {
            if (row.word == PART) {
                part = reckoner.number();
            }
            Flat flat = addFlat(row, order, expansion);
            if (flat == null) {
                return;
            }
            flat.expressions = expressions;
            if (hadToBeKnown(row.word)) {
                flat.told = reckoner.number();
            }
            // Just the first let of a NAME can make it KNOWN.
            if (row.word == LET && flat.label != null && flat.label.known == NOT_LET) {
                boolean known = reckoner.reckon(row, true, 0, NONE);
                flat.label.known = known ? LET_KNOWN : LET_UNKNOWN;
                flat.label.told = known ? reckoner.number() : 0;
            }
        }

        private static boolean hadToBeKnown(int word) {
            return word == ROOM || word == PART || word == FROM || word == ALIGN || word == REPEAT || word == IF;
        }

        /** Reckons what had to be KNOWN; answers whether it could be and is as the word asks. */
        private boolean isKnownWithin(Row row, int order) {
            if (!reckoner.reckon(row, true, 0, NONE)) {
                fail(reckoner.missCode(), row, reckoner.missPlace());
                return false;
            }
            if (!isWithin(row.word, reckoner.number())) {
                fail(FAULT_RANGE, row, order + 1);
                return false;
            }
            return true;
        }

        private static boolean isWithin(int word, int number) {
            switch (word) {
                case ROOM:
                    return number >= 0 && number <= 40;
                case PART:
                    return number >= 0 && number < PARTS;
                case FROM:
                    return number >= 0 && number <= 500;
                case ALIGN:
                    return number >= 1 && number <= 16 && (number & number - 1) == 0;
                case REPEAT:
                    return number >= 0 && number <= 5;
                default:
                    return true;
            }
        }

        /** Puts a FLAT line behind the others; answers null with a fault. */
        private Flat addFlat(Row row, int order, int expansion) {
            if (flatCount >= MOST_LINES) {
                fail(FAULT_LONG, row, 0);
                return null;
            }
            Flat flat;
            if (flatCount < flats.size()) {
                flat = flats.get(flatCount);
            } else {
                flat = new Flat();
                flats.add(flat);
            }
            flatCount++;
            flat.begin(row, expansion, part);
            flat.pooled = row.word == LOAD && tokens.isSign(row, order + 1, '=');
            flat.operands = flat.pooled ? order + 2 : order + 1;
            if (order > 0) {
                flat.label = tokens.nameAt(row, 0);
            }
            return flat;
        }

        private void callMacro(Row row, int order, Name name, Frame frame) {
            if (!argumentsAreRight(row, order + 1)) {
                return;
            }
            if (order > 0) {
                Row label = addRow(row.start, order, row.line);
                if (addFlat(label, order, frame.expansion) == null) {
                    return;
                }
            }
            Frame body = pushFrame(row, order);
            if (body != null) {
                body.from = name.bodyFrom;
                body.to = name.bodyTo;
                body.rounds = 1;
                body.called = true;
            }
        }

        private boolean argumentsAreRight(Row row, int from) {
            int begin = from;
            arguments = 0;
            argumentsFrom[0] = row.start + from;
            for (int place = from; place <= row.count && row.count > from; place++) {
                boolean ends = place == row.count || tokens.isSign(row, place, ',');
                if (ends ? place == begin : arguments >= MOST_ARGUMENTS) {
                    fail(FAULT_LINE, row, place);
                    return false;
                }
                if (ends && arguments < MOST_ARGUMENTS) {
                    begin = place + 1;
                    arguments++;
                    argumentsFrom[arguments] = row.start + begin;
                }
            }
            return true;
        }

        private void openBlock(int at, int order, Frame frame) {
            Row row = rowAt(at);
            int end = row.word == END || row.word == ELSE ? NONE : endOf(at + 1, frame.end);
            if (end == NONE) {
                fail(FAULT_BLOCK, row, order);
                return;
            }
            frame.next = end + 1;
            if (row.word == MACRO) {
                defineMacro(row, at + 1, end);
                return;
            }
            int number = reckoner.number();
            if (row.word == REPEAT && number == 0) {
                return;
            }
            Frame body = pushFrame(row, order);
            if (body == null) {
                return;
            }
            if (row.word == REPEAT) {
                body.from = at + 1;
                body.to = end;
                body.rounds = number;
                return;
            }
            int parting = elseOf(at + 1, end);
            if (number != 0) {
                body.next = at + 1;
                body.end = parting == NONE ? end : parting;
            } else {
                body.next = parting == NONE ? end : parting + 1;
                body.end = end;
            }
            body.expansion = frame.expansion;
        }

        private static boolean opens(int word) {
            return word == MACRO || word == REPEAT || word == IF;
        }

        /** The row with the end of a BLOCK, NONE where none closes it. */
        private int endOf(int from, int to) {
            int open = 1;
            for (int i = from; i < to; i++) {
                int word = rowAt(i).word;
                if (opens(word)) {
                    open++;
                } else if (word == END) {
                    open--;
                    if (open == 0) {
                        return i;
                    }
                }
            }
            return NONE;
        }

        /** The row with the else that parts an if, NONE without one. */
        private int elseOf(int from, int to) {
            int open = 0;
            for (int i = from; i < to; i++) {
                int word = rowAt(i).word;
                if (opens(word)) {
                    open++;
                } else if (word == END) {
                    open--;
                } else if (word == ELSE && open == 0) {
                    return i;
                }
            }
            return NONE;
        }

        private void defineMacro(Row row, int from, int to) {
            Name name = tokens.nameAt(row, 0);
            if (name.bodyFrom != NONE) {
                fail(FAULT_TWICE, row, 0);
                return;
            }
            for (int i = from; i < to; i++) {
                if (rowAt(i).word == MACRO) {
                    fail(FAULT_BLOCK, rowAt(i), tokens.orderPlace(rowAt(i)));
                    return;
                }
            }
            name.bodyFrom = from;
            name.bodyTo = to;
            macros++;
        }
    }

    /** START and bytes of each PART, and all MOVES. */
    private static final class Memory {
        private final int[] start = new int[PARTS];
        private final int[] size = new int[PARTS];
        private final int[] cells = new int[PARTS * MOST_LENGTH];
        private final Ints moveAddresses = new Ints();
        private final Ints moveKinds = new Ints();
        private final Ints moveBases = new Ints();
        private final Ints moveNumbers = new Ints();

        void wipe() {
            Arrays.fill(start, 0);
            Arrays.fill(size, 0);
            moveAddresses.cutTo(0);
            moveKinds.cutTo(0);
            moveBases.cutTo(0);
            moveNumbers.cutTo(0);
        }

        void place(int part, int itsStart, int itsSize) {
            if (part >= 0 && part < PARTS) {
                start[part] = itsStart;
                size[part] = itsSize;
            }
        }

        int startOf(int part) {
            return part >= 0 && part < PARTS ? start[part] : 0;
        }

        int sizeOf(int part) {
            return part >= 0 && part < PARTS ? size[part] : 0;
        }

        int endOf(int part) {
            return startOf(part) + sizeOf(part);
        }

        void write(int part, int offset, int number) {
            if (part >= 0 && part < PARTS && offset >= 0 && offset < MOST_LENGTH) {
                cells[part * MOST_LENGTH + offset] = number & 255;
            }
        }

        void writeWord(int part, int offset, int number) {
            write(part, offset, number);
            write(part, offset + 1, number >> 8);
        }

        /** The byte at an address, NONE without one. */
        int cellAt(int address) {
            for (int part = 0; part < PARTS; part++) {
                int offset = address - start[part];
                if (offset >= 0 && offset < size[part] && offset < MOST_LENGTH) {
                    return cells[part * MOST_LENGTH + offset];
                }
            }
            return NONE;
        }

        /** Puts a MOVE in at its place by addresses. */
        void addMove(int address, int kind, int base, int number) {
            int at = moveAddresses.size();
            while (at > 0 && moveAddresses.at(at - 1) > address) {
                at--;
            }
            moveAddresses.insert(at, address);
            moveKinds.insert(at, kind);
            moveBases.insert(at, base);
            moveNumbers.insert(at, number);
        }

        int moveCount() {
            return moveAddresses.size();
        }

        int factOfMove(int at, int what) {
            switch (what) {
                case 0:
                    return moveAddresses.at(at);
                case 1:
                    return moveKinds.at(at);
                case 2:
                    return moveBases.at(at);
                default:
                    return moveNumbers.at(at);
            }
        }

        int movesWith(int base) {
            int found = 0;
            for (int i = 0; i < moveCount(); i++) {
                if (moveBases.at(i) == base) {
                    found++;
                }
            }
            return found;
        }

        /** The least START of PARTS with bytes, 0 without. */
        int least() {
            int least = NONE;
            for (int part = 0; part < PARTS; part++) {
                if (size[part] > 0 && (least == NONE || start[part] < least)) {
                    least = start[part];
                }
            }
            return Math.max(least, 0);
        }

        /** The greatest end of PARTS with bytes, 0 without. */
        int greatest() {
            int greatest = 0;
            for (int part = 0; part < PARTS; part++) {
                if (size[part] > 0) {
                    greatest = Math.max(greatest, start[part] + size[part]);
                }
            }
            return greatest;
        }

        int byteCount() {
            int count = 0;
            for (int part = 0; part < PARTS; part++) {
                count += size[part];
            }
            return count;
        }

        /** Takes over the bytes of another one; its MOVES are not asked for later. */
        void become(Memory other) {
            System.arraycopy(other.start, 0, start, 0, PARTS);
            System.arraycopy(other.size, 0, size, 0, PARTS);
            System.arraycopy(other.cells, 0, cells, 0, cells.length);
        }

        /** How many addresses DIFFER (0), the first (1) and the last of them (2). */
        int difference(Memory other, int what) {
            int count = 0;
            int first = NONE;
            int last = NONE;
            int end = Math.max(greatest(), other.greatest());
            for (int address = 0; address < end; address++) {
                if (cellAt(address) != other.cellAt(address)) {
                    count++;
                    last = address;
                    first = first == NONE ? address : first;
                }
            }
            return what == 0 ? count : what == 1 ? first : last;
        }

        boolean same(Memory other) {
            if (difference(other, 0) != 0 || moveCount() != other.moveCount()) {
                return false;
            }
            for (int part = 0; part < PARTS; part++) {
                if (start[part] != other.start[part] || size[part] != other.size[part]) {
                    return false;
                }
            }
            for (int i = 0; i < moveCount(); i++) {
                for (int what = 0; what <= 3; what++) {
                    if (factOfMove(i, what) != other.factOfMove(i, what)) {
                        return false;
                    }
                }
            }
            return true;
        }
    }

    /** One assembly: what sections 4 to 7 make of FLAT lines. */
    private static final class Assembly {
        private final Expander expander = new Expander();
        private final Memory memory = new Memory();
        private final int[] sizes = new int[MOST_LINES];
        private final int[] otherSizes = new int[MOST_LINES];
        private final Name[] symbols = new Name[MOST_LINES];
        private final Name nobody = new Name();
        private int symbolCount;
        private int passes;
        private final int[] code = new int[PARTS];
        private final int[] align = new int[PARTS];
        private final int[] origin = new int[PARTS];
        private final int[] literals = new int[PARTS];
        private final Ints literalParts = new Ints();
        private final Ints literalPlaces = new Ints();
        private final Ints literalNumbers = new Ints();
        private final Ints literalBases = new Ints();

        /** Goes on behind section 3, if that brought no fault. */
        void finish() {
            memory.wipe();
            symbolCount = 0;
            passes = 0;
            Arrays.fill(literals, 0);
            literalParts.cutTo(0);
            literalPlaces.cutTo(0);
            literalNumbers.cutTo(0);
            literalBases.cutTo(0);
            if (stands()) {
                defineSymbols();
            }
            if (stands()) {
                sortSymbols();
                settleJumps();
                settleSymbols();
                reckonEquates();
            }
            if (stands()) {
                askValues();
            }
            if (stands()) {
                placeParts();
            }
            if (stands()) {
                writeBytes();
            }
        }

        private boolean stands() {
            return expander.faultCode() == 0;
        }

        private int flatCount() {
            return Math.min(expander.flatCount(), MOST_LINES);
        }

        // ---- section 4

        private void defineSymbols() {
            for (int i = 0; i < flatCount() && stands(); i++) {
                Flat flat = expander.flatAt(i);
                if (flat.label != null) {
                    define(flat.label, flat.word == LET ? EQUATE : LABEL, i, 0);
                }
                Name named = expander.tokens.nameAt(flat.row, flat.operands);
                if (flat.word == WANT) {
                    define(named, WANTED, i, flat.operands);
                } else if (flat.word == SHARE) {
                    named.shared = true;
                } else if (flat.word == WEAK && named.weakFlat == NONE) {
                    named.weakFlat = i;
                }
            }
        }

        private void define(Name name, int kind, int flat, int place) {
            if (name.kind != 0) {
                expander.fail(FAULT_TWICE, expander.flatAt(flat).row, place);
                return;
            }
            name.kind = kind;
            name.flat = flat;
        }

        private void sortSymbols() {
            for (int i = 0; i < flatCount(); i++) {
                Flat flat = expander.flatAt(i);
                Name named = expander.tokens.nameAt(flat.row, flat.operands);
                if (flat.label != null) {
                    insertSymbol(flat.label);
                } else if (flat.word == WANT) {
                    insertSymbol(named);
                } else if (flat.word == WEAK && named.kind == 0) {
                    named.kind = WEAK_ALONE;
                    named.flat = i;
                    insertSymbol(named);
                }
            }
        }

        private void insertSymbol(Name name) {
            if (symbolCount >= MOST_LINES) {
                return;
            }
            int at = symbolCount;
            while (at > 0 && expander.tokens.isAhead(name, symbolAt(at - 1))) {
                symbols[at] = symbolAt(at - 1);
                at--;
            }
            symbols[at] = name;
            symbolCount++;
        }

        /** What a FLAT line takes, a jump as if it were SHORT. */
        private static int sizeOf(Flat flat) {
            switch (flat.word) {
                case BYTE:
                    return flat.expressions;
                case WORD:
                    return 2 * flat.expressions;
                case ROOM:
                    return flat.told;
                case JUMP:
                    return 2;
                case CALL:
                    return 3;
                case LOAD:
                    return flat.pooled ? 3 : 2;
                case STOP:
                    return 1;
                default:
                    return 0;
            }
        }

        Name symbolAt(int at) {
            Name name = at >= 0 && at < symbolCount && at < MOST_LINES ? symbols[at] : null;
            return name == null ? nobody : name;
        }

        private int sizeAt(int[] someSizes, int at) {
            return at >= 0 && at < someSizes.length ? someSizes[at] : 0;
        }

        private void settleJumps() {
            for (int i = 0; i < flatCount(); i++) {
                Flat flat = expander.flatAt(i);
                sizes[i] = sizeOf(flat);
                if (flat.word == JUMP) {
                    Name name = expander.tokens.nameAt(flat.row, flat.operands);
                    flat.target = name.flat;
                    flat.shortable = flat.row.count == flat.operands + 1 && name.kind == LABEL
                        && expander.flatAt(name.flat).part == flat.part;
                    sizes[i] = flat.shortable ? SIZE_SHORT : SIZE_LONG;
                }
            }
            boolean changes = true;
            while (changes && passes <= MOST_LINES) {
                passes++;
                changes = lengthenJumps();
            }
            Arrays.fill(code, 0);
            for (int i = 0; i < flatCount(); i++) {
                Flat flat = expander.flatAt(i);
                flat.offset = code[flat.part & 3];
                code[flat.part & 3] += sizes[i];
            }
        }

        /** One PASS; answers whether it changed anything. */
        private boolean lengthenJumps() {
            boolean changes = false;
            System.arraycopy(sizes, 0, otherSizes, 0, MOST_LINES);
            for (int i = 0; i < flatCount(); i++) {
                if (expander.flatAt(i).shortable && otherSizes[i] == SIZE_SHORT && !reaches(otherSizes, i)) {
                    sizes[i] = SIZE_LONG;
                    changes = true;
                }
            }
            return changes;
        }

        private boolean reaches(int[] someSizes, int at) {
            int reach = reachBy(someSizes, at);
            return reach >= LEAST_REACH && reach <= MOST_REACH;
        }

        /** REACH of a SHORTABLE jump as if it were SHORT, all other FLAT lines having such SIZES. */
        private int reachBy(int[] someSizes, int at) {
            Flat jump = expander.flatAt(at);
            boolean ahead = jump.target > at;
            int from = ahead ? at + 1 : jump.target;
            int to = ahead ? jump.target : at;
            int between = 0;
            for (int i = from; i < to; i++) {
                if (expander.flatAt(i).part == jump.part) {
                    between += sizeAt(someSizes, i);
                }
            }
            return ahead ? between : -between - SIZE_SHORT;
        }

        int reachNow(int at) {
            return reachBy(sizes, at);
        }

        // ---- section 5

        private void settleSymbols() {
            for (int i = 0; i < symbolCount; i++) {
                Name name = symbolAt(i);
                Flat flat = expander.flatAt(name.flat);
                if (name.kind == LABEL) {
                    name.become(flat.offset, flat.part);
                } else if (name.kind == WANTED) {
                    name.become(0, WANTED_BASE + i);
                } else if (name.kind == WEAK_ALONE) {
                    name.become(0, NONE);
                }
            }
        }

        private void reckonEquates() {
            for (int round = 0; round <= MOST_LINES && stands(); round++) {
                int brought = 0;
                Flat left = null;
                for (int i = 0; i < flatCount() && stands(); i++) {
                    Flat flat = expander.flatAt(i);
                    if (flat.word != LET || flat.label == null || flat.label.ready) {
                        continue;
                    }
                    if (firstWaiting(flat) == NONE) {
                        reckonInto(flat, flat.operands, 0);
                        flat.label.become(flat.number(0), flat.base(0));
                        brought++;
                    } else if (left == null) {
                        left = flat;
                    }
                }
                if (left == null) {
                    return;
                }
                if (brought == 0) {
                    int place = firstWaiting(left);
                    boolean known = expander.tokens.nameAt(left.row, place).kind != 0;
                    expander.fail(known ? FAULT_ROUND : FAULT_UNKNOWN, left.row, place);
                }
            }
        }

        /** The place of the first NAME in an EXPRESSION that cannot be reckoned yet, NONE without one. */
        private int firstWaiting(Flat flat) {
            for (int place = flat.operands; place < flat.row.count; place++) {
                if (expander.tokens.kindAt(flat.row, place) == NAME && !expander.tokens.nameAt(flat.row, place).ready) {
                    return place;
                }
            }
            return NONE;
        }

        /** Reckons an EXPRESSION of a FLAT line; answers the place behind it. */
        private int reckonInto(Flat flat, int place, int which) {
            Reckoner reckoner = expander.reckoner;
            int behind = reckoner.parse(flat.row, place);
            if (!reckoner.reckon(flat.row, false, flat.offset, flat.part)) {
                expander.fail(reckoner.missCode(), flat.row, reckoner.missPlace());
                return behind;
            }
            flat.become(which, reckoner.number(), reckoner.base());
            return behind;
        }

        // ---- section 6

        private void askValues() {
            for (int i = 0; i < flatCount() && stands(); i++) {
                Flat flat = expander.flatAt(i);
                if (flat.word == SHARE) {
                    int kind = expander.tokens.nameAt(flat.row, flat.operands).kind;
                    if (kind != LABEL && kind != EQUATE) {
                        expander.fail(FAULT_UNKNOWN, flat.row, flat.operands);
                    }
                }
                int place = flat.operands;
                int asked = isAsked(flat.word) ? flat.expressions : 0;
                for (int which = 0; which < asked && stands(); which++) {
                    int behind = reckonInto(flat, place, which);
                    int fault = stands() ? askedOf(flat, which) : 0;
                    if (fault != 0) {
                        expander.fail(fault, flat.row, place);
                    }
                    place = behind + 1;
                }
                if (flat.pooled && stands()) {
                    poolLiteral(flat);
                }
            }
        }

        private static boolean isAsked(int word) {
            return word == BYTE || word == WORD || word == JUMP || word == CALL || word == LOAD;
        }

        /** The code of the fault that a VALUE is in a FLAT line, 0 where it may stand there. */
        private static int askedOf(Flat flat, int which) {
            int number = flat.number(which);
            int base = flat.base(which);
            if (flat.word == BYTE || flat.word == LOAD && !flat.pooled) {
                if (base != NONE) {
                    return FAULT_BASE;
                }
                return number < -128 || number > 255 ? FAULT_RANGE : 0;
            }
            int least = flat.word == JUMP || flat.word == CALL ? 0 : -32768;
            return base == NONE && (number < least || number > MOST_NUMBER) ? FAULT_RANGE : 0;
        }

        private void poolLiteral(Flat flat) {
            int number = flat.number(0);
            int base = flat.base(0);
            for (int i = 0; i < literalParts.size(); i++) {
                if (literalParts.at(i) == flat.part && literalNumbers.at(i) == number && literalBases.at(i) == base) {
                    flat.literal = i;
                    return;
                }
            }
            flat.literal = literalParts.size();
            literalParts.add(flat.part);
            literalPlaces.add(literals[flat.part & 3]);
            literalNumbers.add(number);
            literalBases.add(base);
            literals[flat.part & 3]++;
        }

        // ---- section 7

        private void placeParts() {
            Arrays.fill(align, 1);
            Arrays.fill(origin, NONE);
            for (int i = 0; i < flatCount(); i++) {
                Flat flat = expander.flatAt(i);
                if (flat.word == ALIGN) {
                    align[flat.part & 3] = Math.max(align[flat.part & 3], flat.told);
                } else if (flat.word == FROM) {
                    origin[flat.part & 3] = flat.told;
                }
            }
            int end = 0;
            for (int part = 0; part < PARTS; part++) {
                int length = code[part] + 2 * literals[part];
                if (length > MOST_LENGTH) {
                    expander.failAt(FAULT_SPACE, NONE, part);
                    return;
                }
                int start = origin[part] != NONE ? origin[part] : roundUp(end, align[part]);
                memory.place(part, start, length);
                end = start + length;
            }
            for (int part = 1; part < PARTS; part++) {
                for (int other = 0; other < part && stands(); other++) {
                    if (haveAddressInCommon(part, other)) {
                        expander.failAt(FAULT_SPACE, NONE, part);
                    }
                }
            }
        }

        private static int roundUp(int number, int step) {
            return step > 0 ? (number + step - 1) / step * step : number;
        }

        private boolean haveAddressInCommon(int part, int other) {
            return memory.sizeOf(part) > 0 && memory.sizeOf(other) > 0
                && memory.startOf(part) < memory.endOf(other) && memory.startOf(other) < memory.endOf(part);
        }

        private void writeBytes() {
            for (int i = 0; i < flatCount(); i++) {
                writeFlatLine(expander.flatAt(i), i);
            }
            for (int i = 0; i < literalParts.size(); i++) {
                writeValue(literalParts.at(i), literalOffset(i), literalNumbers.at(i), literalBases.at(i));
            }
        }

        private int literalOffset(int literal) {
            return code[literalParts.at(literal) & 3] + 2 * literalPlaces.at(literal);
        }

        private void writeFlatLine(Flat flat, int at) {
            int part = flat.part;
            int offset = flat.offset;
            switch (flat.word) {
                case BYTE:
                    for (int i = 0; i < flat.expressions; i++) {
                        memory.write(part, offset + i, flat.number(i));
                    }
                    break;
                case WORD:
                    for (int i = 0; i < flat.expressions; i++) {
                        writeValue(part, offset + 2 * i, flat.number(i), flat.base(i));
                    }
                    break;
                case ROOM:
                case STOP:
                    for (int i = 0; i < sizes[at]; i++) {
                        memory.write(part, offset + i, 0);
                    }
                    break;
                case JUMP:
                    if (isShort(at)) {
                        memory.write(part, offset, CODE_SHORT);
                        memory.write(part, offset + 1, reachBy(sizes, at));
                    } else {
                        memory.write(part, offset, CODE_LONG);
                        writeValue(part, offset + 1, flat.number(0), flat.base(0));
                    }
                    break;
                case CALL:
                    writeCall(flat);
                    break;
                case LOAD:
                    writeLoad(flat);
                    break;
                default:
                    break;
            }
        }

        private void writeCall(Flat flat) {
            int address = memory.startOf(flat.part) + flat.offset;
            int distance = addressMeant(flat.number(0), flat.base(0)) - (address + 3);
            memory.write(flat.part, flat.offset, CODE_CALL);
            memory.writeWord(flat.part, flat.offset + 1, distance);
            if (flat.base(0) != flat.part) {
                memory.addMove(address + 1, KIND_OF_CALL, flat.base(0), flat.number(0));
            }
        }

        private void writeLoad(Flat flat) {
            if (!flat.pooled) {
                memory.write(flat.part, flat.offset, CODE_LOAD);
                memory.write(flat.part, flat.offset + 1, flat.number(0));
                return;
            }
            int start = memory.startOf(flat.part);
            int offset = literalOffset(flat.literal);
            memory.write(flat.part, flat.offset, CODE_LOAD_LITERAL);
            memory.writeWord(flat.part, flat.offset + 1, start + offset);
            memory.addMove(start + flat.offset + 1, KIND_OF_WORD, flat.part, offset);
        }

        private int addressMeant(int number, int base) {
            return base >= 0 && base < PARTS ? memory.startOf(base) + number : number;
        }

        /** Writes the WORD of a VALUE. */
        private void writeValue(int part, int offset, int number, int base) {
            memory.writeWord(part, offset, addressMeant(number, base));
            if (base != NONE) {
                int kind = base < PARTS ? KIND_OF_WORD : KIND_OF_WANTED;
                memory.addMove(memory.startOf(part) + offset, kind, base, number);
            }
        }

        private boolean isShort(int at) {
            return expander.flatAt(at).word == JUMP && sizeAt(sizes, at) == SIZE_SHORT;
        }

        // ---- what is asked of it

        int symbolCount() {
            return symbolCount;
        }

        void writeSymbol(int at, Text to) {
            to.wipe();
            expander.tokens.writeName(symbolAt(at), to);
        }

        /** The place of the SYMBOL of that NAME, NONE without one. */
        int symbolNamed(Text text) {
            for (int i = 0; i < symbolCount; i++) {
                if (expander.tokens.isNamed(symbolAt(i), text)) {
                    return i;
                }
            }
            return NONE;
        }

        int factOfFlat(int at, int what) {
            Flat flat = expander.flatAt(at);
            switch (what) {
                case 0:
                    return flat.row.line;
                case 1:
                    return flat.expansion;
                case 2:
                    return flat.word;
                case 3:
                    return flat.part;
                case 4:
                    return flat.offset;
                case 5:
                    return sizeAt(sizes, at);
                case 6:
                    return memory.startOf(flat.part) + flat.offset;
                case 7:
                    return flat.word != JUMP ? 0 : isShort(at) ? 1 : 2;
                case 8:
                    return flat.shortable ? 1 : 0;
                case 9:
                    return flat.row.count;
                case 10:
                    return flat.number(0);
                default:
                    return flat.base(0);
            }
        }

        /** Writes a row of the listing. */
        void writeListing(int at, Text to) {
            int address = factOfFlat(at, 6);
            int size = sizeAt(sizes, at);
            to.wipe();
            to.addHex(address, 4);
            to.add(' ');
            for (int i = 0; i < size && i < LISTED_BYTES; i++) {
                to.addHex(memory.cellAt(address + i), 2);
            }
            to.addAll(size > LISTED_BYTES ? "+  " : "  ");
            Row row = expander.flatAt(at).row;
            expander.tokens.addForm(row, row.count, to);
        }

        int factOfAll(int what) {
            switch (what) {
                case 0:
                    return memory.least();
                case 1:
                    return memory.greatest();
                case 2:
                    return memory.byteCount();
                case 3:
                    return memory.greatest() - memory.least() - memory.byteCount();
                case 4:
                    return memory.moveCount();
                case 5:
                    return symbolCount;
                case 6:
                    return literalParts.size();
                case 7:
                    return expander.expansionCount();
                case 8:
                    return expander.macroCount();
                default:
                    return stretches();
            }
        }

        int factOfPart(int part, int what) {
            int its = part & 3;
            switch (what) {
                case 0:
                    return memory.startOf(its);
                case 1:
                    return memory.sizeOf(its);
                case 2:
                    return code[its];
                case 3:
                    return align[its];
                case 4:
                    return origin[its];
                default:
                    return literals[its];
            }
        }

        int factOfSymbol(int at, int what) {
            Name name = symbolAt(at);
            switch (what) {
                case 0:
                    return name.kind;
                case 1:
                    return name.number;
                case 2:
                    return name.base;
                case 3:
                    return name.flat;
                case 4:
                    return usersOf(at);
                case 5:
                    return name.shared ? 1 : 0;
                default:
                    return name.weakFlat != NONE ? 1 : 0;
            }
        }

        private int usersOf(int symbol) {
            int users = 0;
            for (int i = 0; i < flatCount(); i++) {
                if (usesSymbol(i, symbol)) {
                    users++;
                }
            }
            return users;
        }

        boolean usesSymbol(int flat, int symbol) {
            return isUsed(expander.flatAt(flat), symbolAt(symbol));
        }

        private boolean isUsed(Flat flat, Name name) {
            Tokens tokens = expander.tokens;
            for (int place = flat.operands; place < flat.row.count; place++) {
                if (tokens.kindAt(flat.row, place) == NAME && tokens.nameAt(flat.row, place) == name) {
                    return true;
                }
            }
            return false;
        }

        /** The FLAT line at a place among those that USE a SYMBOL, NONE without one. */
        int userOf(int symbol, int place) {
            int left = place;
            for (int i = 0; i < flatCount(); i++) {
                if (usesSymbol(i, symbol)) {
                    if (left == 0) {
                        return i;
                    }
                    left--;
                }
            }
            return NONE;
        }

        /** Which of all LITERALS stands at a place in a PART, NONE without one. */
        int literalAt(int part, int place) {
            for (int i = 0; i < literalParts.size(); i++) {
                if (literalParts.at(i) == part && literalPlaces.at(i) == place) {
                    return i;
                }
            }
            return NONE;
        }

        int factOfLiteral(int literal, int what) {
            if (what == 2) {
                return memory.startOf(literalParts.at(literal)) + literalOffset(literal);
            }
            return what == 0 ? literalNumbers.at(literal) : literalBases.at(literal);
        }

        int factOfJumps(int what) {
            if (what == 3) {
                return passes;
            }
            if (what == 4) {
                shrinkJumps();
                return longJumps(otherSizes);
            }
            int jumps = 0;
            int shortable = 0;
            for (int i = 0; i < flatCount(); i++) {
                jumps += expander.flatAt(i).word == JUMP ? 1 : 0;
                shortable += expander.flatAt(i).shortable ? 1 : 0;
            }
            return what == 0 ? jumps : what == 1 ? shortable : longJumps(sizes);
        }

        private int longJumps(int[] someSizes) {
            int found = 0;
            for (int i = 0; i < flatCount(); i++) {
                if (expander.flatAt(i).word == JUMP && sizeAt(someSizes, i) == SIZE_LONG) {
                    found++;
                }
            }
            return found;
        }

        /** Leaves in otherSizes what SHRINKING makes of the SIZES. */
        private void shrinkJumps() {
            for (int i = 0; i < flatCount(); i++) {
                otherSizes[i] = expander.flatAt(i).shortable ? SIZE_LONG : sizes[i];
            }
            boolean changes = true;
            for (int round = 0; round <= MOST_LINES && changes; round++) {
                changes = false;
                for (int i = 0; i < flatCount(); i++) {
                    if (expander.flatAt(i).shortable && otherSizes[i] == SIZE_LONG && reaches(otherSizes, i)) {
                        otherSizes[i] = SIZE_SHORT;
                        changes = true;
                    }
                }
            }
        }

        // ---- STRETCHES and what is sound

        int stretches() {
            int found = 0;
            for (int i = 0; i < flatCount(); i++) {
                if (beginsStretch(i)) {
                    found++;
                }
            }
            return found;
        }

        private boolean beginsStretch(int at) {
            return at == 0 || expander.flatAt(at).part != expander.flatAt(at - 1).part;
        }

        /** The FLAT line with which a STRETCH begins, how many there are behind the last one. */
        private int beginOf(int stretch) {
            int left = stretch;
            for (int i = 0; i < flatCount(); i++) {
                if (beginsStretch(i)) {
                    if (left == 0) {
                        return i;
                    }
                    left--;
                }
            }
            return flatCount();
        }

        boolean haveNoNameInCommon(int stretch) {
            int first = beginOf(stretch);
            int second = beginOf(stretch + 1);
            int end = beginOf(stretch + 2);
            for (int i = 0; i < symbolCount; i++) {
                Name name = symbolAt(i);
                if (isNameIn(name, first, second) && isNameIn(name, second, end)) {
                    return false;
                }
            }
            return true;
        }

        private boolean isNameIn(Name name, int from, int to) {
            for (int i = from; i < to; i++) {
                Flat flat = expander.flatAt(i);
                if (flat.label == name || isUsed(flat, name)) {
                    return true;
                }
            }
            return false;
        }

        /** Writes the FORMS of all FLAT lines, a STRETCH and the next one exchanged; answers how many texts. */
        int writeExchanged(int stretch, Text[] texts) {
            int first = stretch == NONE ? 0 : beginOf(stretch);
            int second = stretch == NONE ? 0 : beginOf(stretch + 1);
            int end = stretch == NONE ? 0 : beginOf(stretch + 2);
            int parting = first + end - second;
            int count = 0;
            for (int i = 0; i < flatCount(); i++) {
                if (i == parting && stretch == 0) {
                    Text text = textOf(texts, count);
                    text.wipe();
                    text.addAll("part 0");
                    count++;
                }
                int from = i;
                if (i >= first && i < end) {
                    from = i < parting ? i + second - first : i + second - end;
                }
                expander.writeFlat(from, textOf(texts, count));
                count++;
            }
            return count;
        }

        /** Whether all SHORT jumps reach and no choice of SHORT ones that all reach leaves fewer LONG. */
        boolean jumpsAreLeast() {
            if (!allShortReach(sizes)) {
                return false;
            }
            int shortable = factOfJumps(1);
            int choices = shortable > JUMPS_CHOSEN_FROM ? 0 : 1 << shortable;
            for (int choice = 0; choice < choices; choice++) {
                int which = 0;
                for (int i = 0; i < flatCount(); i++) {
                    otherSizes[i] = sizes[i];
                    if (expander.flatAt(i).shortable) {
                        otherSizes[i] = (choice >> which & 1) != 0 ? SIZE_LONG : SIZE_SHORT;
                        which++;
                    }
                }
                if (longJumps(otherSizes) < longJumps(sizes) && allShortReach(otherSizes)) {
                    return false;
                }
            }
            return true;
        }

        private boolean allShortReach(int[] someSizes) {
            for (int i = 0; i < flatCount(); i++) {
                if (expander.flatAt(i).shortable && sizeAt(someSizes, i) == SIZE_SHORT && !reaches(someSizes, i)) {
                    return false;
                }
            }
            return true;
        }
    }
}
