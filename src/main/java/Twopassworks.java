import java.util.ArrayList;
import java.util.Arrays;

/** An assembler for a small machine. A word in capitals in a comment here is one of the document's words. */
public final class Twopassworks {
    private static final int NONE = -1;
    private static final int MOST_INT = 2147483647;
    private static final int MOST_LINES = 120;
    private static final int MOST_SIGNS = 80;
    private static final int MOST_NUMBER = 65535;
    private static final int MOST_EXPANSIONS = 60;
    private static final int MOST_BODIES = 4;
    private static final int MOST_INSIDE = 3;
    private static final int MOST_EXPRESSIONS = 3;
    private static final int MOST_ARGUMENTS = 3;
    private static final int PARTS = 4;
    private static final int MOST_LENGTH = 400;
    private static final int WANTED_BASE = 10;
    private static final int STRETCHES_LOOKED_AT = 6;
    private static final int JUMPS_CHOSEN_FROM = 6;
    // The document sets no bound to these; they stand far above what a run can need.
    private static final int MOST_ROOM = 1 << 26;
    private static final int MOST_STEPS = 1000000;
    private static final long MOST_WALKED = 1L << 40;
    // A row or text may be longer than can be counted: it counts as so long then.
    private static final long MOST_COUNTED = 1L << 60;
    // Of more signs just the first ones are told: all calls of a run have room for far fewer.
    private static final int MOST_TOLD = 13 << 24;
    private static final int MOST_AT_HAND = 1 << 20;

    private static final int NAME = 1;
    private static final int LOCAL = 2;
    private static final int PARAMETER = 3;
    private static final int NUMBER = 4;
    private static final int SIGN = 5;
    private static final int REMARK = 6;
    // TOKENS that are written once and stand in several rows (see Tokens).
    private static final int PIECE = 7;
    private static final int SHARED = 128;
    // TOKENS that are more, and NAMES and TOKENS that have more signs, are shared.
    private static final int MOST_COPIED = 8;
    private static final int MOST_SPELLED = 100;
    // A text that is shorter shares nothing. So long a one cannot get so short that a sign may be put in.
    private static final int MOST_WRITTEN = 640;
    private static final int MOST_HEAD = 4;
    private static final int STATES = 32;
    // How often a UNIT follows itself: so many digits to such a base, the lowest one first. A NAME gets longer by rub()
    // alone, at a column that an int tells, so it has less than 2^41 signs.
    private static final int DIGITS = 2;
    private static final int DIGIT_BITS = 30;
    private static final int HIGHEST_DIGIT = (1 << DIGIT_BITS) - 1;

    private static final int FAULT_SIGN = 1;
    private static final int FAULT_NUMBER = 2;
    private static final int FAULT_LINE = 3;
    private static final int FAULT_ORDER = 4;
    private static final int FAULT_BLOCK = 5;
    private static final int FAULT_DEEP = 6;
    private static final int FAULT_LONG = 7;
    private static final int FAULT_TWICE = 8;
    private static final int FAULT_UNKNOWN = 9;
    private static final int FAULT_KNOWN = 10;
    private static final int FAULT_BASE = 11;
    private static final int FAULT_RANGE = 12;
    private static final int FAULT_ZERO = 13;
    private static final int FAULT_ROUND = 14;
    private static final int FAULT_SPACE = 15;
    private static final int FAULT_ARGUMENT = 16;

    private static final String SIGNS = "+-*/(),:=.";
    private static final String WORDS =
        "byte word room jump call load stop let part from align share want weak macro end repeat if else";
    private static final int BYTE = 1;
    private static final int WORD = 2;
    private static final int ROOM = 3;
    private static final int JUMP = 4;
    private static final int CALL = 5;
    private static final int LOAD = 6;
    private static final int STOP = 7;
    private static final int LET = 8;
    private static final int PART = 9;
    private static final int FROM = 10;
    private static final int ALIGN = 11;
    private static final int SHARE = 12;
    private static final int WANT = 13;
    private static final int WEAK = 14;
    private static final int MACRO = 15;
    private static final int END = 16;
    private static final int REPEAT = 17;
    private static final int IF = 18;
    private static final int ELSE = 19;

    // What kind of SYMBOL a NAME is.
    private static final int LABEL = 1;
    private static final int EQUATE = 2;
    private static final int WANTED = 3;
    private static final int WEAK_ALONE = 4;

    // What let has made of a NAME so far, while FLAT lines are made.
    private static final int NOT_LET = 0;
    private static final int LET_UNKNOWN = 1;
    private static final int LET_KNOWN = 2;

    private static final int KIND_OF_WORD = 1;
    private static final int KIND_OF_WANTED = 2;
    private static final int KIND_OF_CALL = 3;
    private static final int SIZE_SHORT = 2;
    private static final int SIZE_LONG = 3;
    private static final int LEAST_REACH = -16;
    private static final int MOST_REACH = 15;
    private static final int LISTED_BYTES = 4;
    private static final int CODE_SHORT = 16;
    private static final int CODE_LONG = 17;
    private static final int CODE_CALL = 32;
    private static final int CODE_LOAD = 48;
    private static final int CODE_LOAD_LITERAL = 49;

    private final Codes[] lines = new Codes[MOST_LINES];
    private int lineCount;
    private Assembly image = new Assembly();
    private Assembly spare = new Assembly();
    private boolean made;
    private final Memory old = new Memory();
    private final Memory before = new Memory();
    private final Codes[] again = new Codes[MOST_LINES + 1];
    private int faultCode;
    private int faultLine = NONE;
    private int faultColumn;
    private int refused;
    // The texts of the SOURCE are its; it reads one of them at a time.
    private final Tokens scan = new Tokens();
    private final Row scanned = new Row();
    private final Codes out = new Codes();
    private StringBuilder builder = new StringBuilder();
    private String told = "";

    public Twopassworks() {
    }

    // ---- the source

    public int put(int at, int label, int order, int shape, int x, int y)
        throws IndexOutOfBoundsException, IllegalArgumentException, IllegalStateException {
        if (at < 0 || at > lineCount) {
            throw new IndexOutOfBoundsException();
        }
        if (!isLine(label, order, shape, x, y)) {
            throw new IllegalArgumentException();
        }
        if (lineCount >= MOST_LINES) {
            throw new IllegalStateException();
        }
        lineCount++;
        shift(lineCount - 1, at);
        writeLine(textOf(lines, at), label, order, shape, x, y);
        return lineCount;
    }

    public int remark(int at, int number)
        throws IndexOutOfBoundsException, IllegalArgumentException, IllegalStateException {
        if (!hasLine(at)) {
            throw new IndexOutOfBoundsException();
        }
        if (number < 0 || number > 99) {
            throw new IllegalArgumentException();
        }
        Codes text = textOf(lines, at);
        if (scan.lengthOf(text) >= MOST_SIGNS) {
            throw new IllegalStateException();
        }
        text.addAll(" ;r");
        text.addNumber(number);
        return lengthOf(at);
    }

    public int sign(int at, int column, int code)
        throws IndexOutOfBoundsException, IllegalArgumentException, IllegalStateException {
        if (!hasLine(at) || column < 0 || column > lengthOf(at)) {
            throw new IndexOutOfBoundsException();
        }
        if (code < 32 || code > 126) {
            throw new IllegalArgumentException();
        }
        Codes text = textOf(lines, at);
        if (scan.lengthOf(text) >= MOST_SIGNS) {
            throw new IllegalStateException();
        }
        text.insert(scan.openAt(text, column), code);
        return lengthOf(at);
    }

    public int rub(int at, int column) throws IndexOutOfBoundsException {
        if (!hasSign(at, column)) {
            throw new IndexOutOfBoundsException();
        }
        Codes text = textOf(lines, at);
        int place = scan.openAt(text, column);
        int sign = text.takeOut(place);
        scan.close(text, place);
        return sign;
    }

    public int cut(int at) throws IndexOutOfBoundsException {
        if (!hasLine(at)) {
            throw new IndexOutOfBoundsException();
        }
        shift(at, lineCount - 1);
        lineCount--;
        return lineCount;
    }

    public int move(int from, int to) throws IndexOutOfBoundsException {
        if (!hasLine(from) || !hasLine(to)) {
            throw new IndexOutOfBoundsException();
        }
        shift(from, to);
        return Math.abs(from - to);
    }

    public int clear() {
        int count = lineCount;
        lineCount = 0;
        return count;
    }

    public int tidy() {
        int changes = 0;
        for (int i = 0; i < lineCount; i++) {
            Codes text = textOf(lines, i);
            writeFormOf(text);
            scan.spellUnkept(out);
            scan.spellShort(out);
            scan.spellShort(text);
            if (!scan.isForm(text, out)) {
                text.become(out);
                changes++;
            }
        }
        return changes;
    }

    public int flatten() {
        Expander expander = spare.expander;
        expander.expand(lines, lineCount, NONE, out, scan);
        takeFault(expander);
        if (faultCode == 0) {
            lineCount = expander.flatCount();
            for (int i = 0; i < lineCount; i++) {
                expander.writeFlat(i, textOf(lines, i));
            }
            scan.takeOver(lines, lineCount, expander.tokens);
        }
        return faultCode;
    }

    public int assemble() {
        spare.expander.expand(lines, lineCount, NONE, out, scan);
        spare.finish();
        takeFault(spare.expander);
        if (faultCode == 0) {
            if (made) {
                old.become(image.memory);
            }
            Assembly done = spare;
            spare = image;
            image = done;
            made = true;
        }
        return faultCode;
    }

    public int knock() {
        refused++;
        return refused;
    }

    // ---- source, faults

    public int lines() {
        return lineCount;
    }

    public int length(int at) throws IndexOutOfBoundsException {
        if (!hasLine(at)) {
            throw new IndexOutOfBoundsException();
        }
        return lengthOf(at);
    }

    public int signAt(int at, int column) throws IndexOutOfBoundsException {
        if (!hasSign(at, column)) {
            throw new IndexOutOfBoundsException();
        }
        return scan.signIn(textOf(lines, at), column);
    }

    public String text(int at) throws IndexOutOfBoundsException {
        if (!hasLine(at)) {
            throw new IndexOutOfBoundsException();
        }
        return tell(scan, textOf(lines, at));
    }

    public String form(int at) throws IndexOutOfBoundsException {
        if (!hasLine(at)) {
            throw new IndexOutOfBoundsException();
        }
        writeFormOf(textOf(lines, at));
        return tell(scan, out);
    }

    public int token(int at, int place, int what) throws IndexOutOfBoundsException, IllegalArgumentException {
        if (!hasLine(at) || place < 0 || place >= tokensOf(at)) {
            throw new IndexOutOfBoundsException();
        }
        if (what < 0 || what > 3) {
            throw new IllegalArgumentException();
        }
        return factOfToken(place, what);
    }

    public int tokens(int at) throws IndexOutOfBoundsException {
        if (!hasLine(at)) {
            throw new IndexOutOfBoundsException();
        }
        return clipped(tokensOf(at));
    }

    public int fault(int what) throws IllegalArgumentException {
        if (what < 0 || what > 2) {
            throw new IllegalArgumentException();
        }
        return what == 0 ? faultCode : what == 1 ? faultLine : faultColumn;
    }

    // ---- what was assembled last

    public int flatLines() throws IllegalStateException {
        if (!made) {
            throw new IllegalStateException();
        }
        return image.expander.flatCount();
    }

    public String flat(int at) throws IllegalStateException, IndexOutOfBoundsException {
        if (!made) {
            throw new IllegalStateException();
        }
        if (!hasFlat(at)) {
            throw new IndexOutOfBoundsException();
        }
        image.expander.writeFlat(at, out);
        return tell(image.expander.tokens, out);
    }

    public int ofFlat(int at, int what)
        throws IllegalStateException, IndexOutOfBoundsException, IllegalArgumentException {
        if (!made) {
            throw new IllegalStateException();
        }
        if (!hasFlat(at)) {
            throw new IndexOutOfBoundsException();
        }
        if (what < 0 || what > 11) {
            throw new IllegalArgumentException();
        }
        return image.factOfFlat(at, what);
    }

    public String row(int at) throws IllegalStateException, IndexOutOfBoundsException {
        if (!made) {
            throw new IllegalStateException();
        }
        if (!hasFlat(at)) {
            throw new IndexOutOfBoundsException();
        }
        image.writeListing(at, out);
        return tell(image.expander.tokens, out);
    }

    public int image(int what) throws IllegalStateException, IllegalArgumentException {
        if (!made) {
            throw new IllegalStateException();
        }
        if (what < 0 || what > 9) {
            throw new IllegalArgumentException();
        }
        return image.factOfAll(what);
    }

    public int byteAt(int address) throws IllegalStateException, IllegalArgumentException {
        if (!made) {
            throw new IllegalStateException();
        }
        if (address < 0 || address > MOST_NUMBER) {
            throw new IllegalArgumentException();
        }
        return image.memory.cellAt(address);
    }

    public int part(int part, int what)
        throws IllegalStateException, IndexOutOfBoundsException, IllegalArgumentException {
        if (!made) {
            throw new IllegalStateException();
        }
        if (part < 0 || part >= PARTS) {
            throw new IndexOutOfBoundsException();
        }
        if (what < 0 || what > 5) {
            throw new IllegalArgumentException();
        }
        return image.factOfPart(part, what);
    }

    public String symbol(int at) throws IllegalStateException, IndexOutOfBoundsException {
        if (!made) {
            throw new IllegalStateException();
        }
        if (!hasSymbol(at)) {
            throw new IndexOutOfBoundsException();
        }
        image.writeSymbol(at, out);
        return tell(image.expander.tokens, out);
    }

    public int ofSymbol(int at, int what)
        throws IllegalStateException, IndexOutOfBoundsException, IllegalArgumentException {
        if (!made) {
            throw new IllegalStateException();
        }
        if (!hasSymbol(at)) {
            throw new IndexOutOfBoundsException();
        }
        if (what < 0 || what > 6) {
            throw new IllegalArgumentException();
        }
        return image.factOfSymbol(at, what);
    }

    public int use(int at, int place) throws IllegalStateException, IndexOutOfBoundsException {
        if (!made) {
            throw new IllegalStateException();
        }
        int flat = hasSymbol(at) && place >= 0 ? image.userOf(at, place) : NONE;
        if (flat == NONE) {
            throw new IndexOutOfBoundsException();
        }
        return flat;
    }

    public int moves(int base) throws IllegalStateException, IllegalArgumentException {
        if (!made) {
            throw new IllegalStateException();
        }
        if (base < NONE || base > 200) {
            throw new IllegalArgumentException();
        }
        return image.memory.movesWith(base);
    }

    public int ofMove(int at, int what)
        throws IllegalStateException, IndexOutOfBoundsException, IllegalArgumentException {
        if (!made) {
            throw new IllegalStateException();
        }
        if (at < 0 || at >= image.memory.moveCount()) {
            throw new IndexOutOfBoundsException();
        }
        if (what < 0 || what > 3) {
            throw new IllegalArgumentException();
        }
        return image.memory.factOfMove(at, what);
    }

    public int literal(int part, int place, int what)
        throws IllegalStateException, IndexOutOfBoundsException, IllegalArgumentException {
        if (!made) {
            throw new IllegalStateException();
        }
        int found = part < 0 || part >= PARTS || place < 0 ? NONE : image.literalAt(part, place);
        if (found == NONE) {
            throw new IndexOutOfBoundsException();
        }
        if (what < 0 || what > 2) {
            throw new IllegalArgumentException();
        }
        return image.factOfLiteral(found, what);
    }

    public int jumps(int what) throws IllegalStateException, IllegalArgumentException {
        if (!made) {
            throw new IllegalStateException();
        }
        if (what < 0 || what > 4) {
            throw new IllegalArgumentException();
        }
        return image.factOfJumps(what);
    }

    public int reach(int at) throws IllegalStateException, IndexOutOfBoundsException, IllegalArgumentException {
        if (!made) {
            throw new IllegalStateException();
        }
        if (!hasFlat(at)) {
            throw new IndexOutOfBoundsException();
        }
        if (!image.expander.flatAt(at).shortable) {
            throw new IllegalArgumentException();
        }
        return image.reachNow(at);
    }

    public int changed(int what) throws IllegalStateException, IllegalArgumentException {
        if (!made) {
            throw new IllegalStateException();
        }
        if (what < 0 || what > 2) {
            throw new IllegalArgumentException();
        }
        return old.difference(image.memory, what);
    }

    public boolean mayChangePlaces(int stretch) throws IllegalStateException, IndexOutOfBoundsException {
        if (!made) {
            throw new IllegalStateException();
        }
        if (stretch < 0 || stretch >= image.stretches() - 1) {
            throw new IndexOutOfBoundsException();
        }
        return image.haveNoNameInCommon(stretch);
    }

    // ---- what would be

    public int trial(int at, int label, int order, int shape, int x, int y)
        throws IndexOutOfBoundsException, IllegalArgumentException {
        if (!hasLine(at)) {
            throw new IndexOutOfBoundsException();
        }
        if (!isLine(label, order, shape, x, y)) {
            throw new IllegalArgumentException();
        }
        spare.expander.expand(lines, lineCount, NONE, out, scan);
        spare.finish();
        if (spare.expander.faultCode() != 0) {
            return -spare.expander.faultCode();
        }
        before.become(spare.memory);
        writeLine(out, label, order, shape, x, y);
        spare.expander.expand(lines, lineCount, at, out, scan);
        spare.finish();
        if (spare.expander.faultCode() != 0) {
            return -spare.expander.faultCode();
        }
        return before.difference(spare.memory, 0);
    }

    public int value(int shape, int x, int y, int what) throws IllegalStateException, IllegalArgumentException {
        if (!made) {
            throw new IllegalStateException();
        }
        if (shape < 1 || shape == 2 || shape > 8 || !isAtom(x) || !isAtom(y) || what < 0 || what > 2) {
            throw new IllegalArgumentException();
        }
        int code = reckonShape(shape, x, y);
        if (what == 0) {
            return code;
        }
        Reckoner reckoner = image.expander.reckoner;
        if (code != 0) {
            return what == 1 ? 0 : NONE;
        }
        return what == 1 ? reckoner.number() : reckoner.base();
    }

    /*
     * The document names a THEOREM with five parts here and states none of them. What its own words tell of them is
     * looked at: the source in one form (1), STRETCHES that change places (2), the choice of SHORT jumps (3).
     */
    public boolean isSound() {
        if (!made) {
            return true;
        }
        boolean sound = image.jumpsAreLeast();
        int pairs = image.expander.flatCount() >= MOST_LINES ? 0 : image.stretches() - 1;
        for (int first = NONE; first < STRETCHES_LOOKED_AT && first < pairs && sound; first++) {
            if (first == NONE || image.haveNoNameInCommon(first)) {
                int count = image.writeExchanged(first, again);
                spare.expander.expand(again, count, NONE, out, image.expander.tokens);
                spare.finish();
                sound = spare.expander.faultCode() == 0 && spare.memory.same(image.memory);
            }
        }
        return sound;
    }

    public long digest() {
        long d = mix(6401, lineCount);
        for (int i = 0; i < lineCount; i++) {
            d = mix(d, lengthOf(i));
            writeFormOf(textOf(lines, i));
            d = scan.mixed(d, out);
            d = mix(d, clipped(tokensOf(i)));
        }
        d = mix(mix(mix(d, faultCode), faultLine), faultColumn);
        d = mix(d, made ? 1 : 0);
        if (made) {
            d = mixFlats(d);
            d = mixParts(d);
            d = mixSymbols(d);
            d = mixRest(d);
        }
        return mix(d, isSound() ? 1 : 0);
    }

    private static long mix(long d, long v) {
        return d * 31 + v;
    }

    private long mixFlats(long d) {
        int count = image.expander.flatCount();
        long mixed = mix(d, count);
        for (int i = 0; i < count; i++) {
            for (int what = 0; what <= 11; what++) {
                mixed = mix(mixed, image.factOfFlat(i, what));
            }
            image.writeListing(i, out);
            mixed = image.expander.tokens.mixed(mixed, out);
        }
        for (int what = 0; what <= 9; what++) {
            mixed = mix(mixed, image.factOfAll(what));
        }
        return mixed;
    }

    private long mixParts(long d) {
        long mixed = d;
        for (int part = 0; part < PARTS; part++) {
            for (int what = 0; what <= 5; what++) {
                mixed = mix(mixed, image.factOfPart(part, what));
            }
            int start = image.factOfPart(part, 0);
            int end = start + image.factOfPart(part, 1);
            for (int address = start; address < end; address++) {
                mixed = mix(mixed, image.memory.cellAt(address));
            }
            int literals = image.factOfPart(part, 5);
            for (int place = 0; place < literals; place++) {
                int found = image.literalAt(part, place);
                for (int what = 0; what <= 2; what++) {
                    mixed = mix(mixed, image.factOfLiteral(found, what));
                }
            }
        }
        return mixed;
    }

    private long mixSymbols(long d) {
        long mixed = d;
        for (int i = 0; i < image.symbolCount(); i++) {
            image.writeSymbol(i, out);
            mixed = image.expander.tokens.mixed(mixed, out);
            for (int what = 0; what <= 6; what++) {
                mixed = mix(mixed, image.factOfSymbol(i, what));
            }
            for (int flat = 0; flat < image.expander.flatCount(); flat++) {
                if (image.usesSymbol(flat, i)) {
                    mixed = mix(mixed, flat);
                }
            }
        }
        return mixed;
    }

    private long mixRest(long d) {
        long mixed = d;
        for (int i = 0; i < image.memory.moveCount(); i++) {
            for (int what = 0; what <= 3; what++) {
                mixed = mix(mixed, image.memory.factOfMove(i, what));
            }
        }
        for (int what = 0; what <= 4; what++) {
            mixed = mix(mixed, image.factOfJumps(what));
        }
        for (int what = 0; what <= 2; what++) {
            mixed = mix(mixed, old.difference(image.memory, what));
        }
        return mixed;
    }

    private boolean hasLine(int at) {
        return at >= 0 && at < lineCount;
    }

    private boolean hasSign(int at, int column) {
        return hasLine(at) && column >= 0 && column < scan.lengthOf(textOf(lines, at));
    }

    private boolean hasFlat(int at) {
        return at >= 0 && at < image.expander.flatCount();
    }

    private boolean hasSymbol(int at) {
        return at >= 0 && at < image.symbolCount();
    }

    /** The text at a place; it is made where none was needed so far. */
    private static Codes textOf(Codes[] texts, int at) {
        if (at < 0 || at >= texts.length) {
            return new Codes();
        }
        Codes text = texts[at];
        if (text == null) {
            text = new Codes();
            texts[at] = text;
        }
        return text;
    }

    /** Takes the text at one place out and puts it in at another one; those between go one on or back. */
    private void shift(int from, int to) {
        if (from < 0 || from >= lines.length || to < 0 || to >= lines.length) {
            return;
        }
        Codes moved = lines[from];
        if (from < to) {
            System.arraycopy(lines, from + 1, lines, from, to - from);
        } else {
            System.arraycopy(lines, to, lines, to + 1, from - to);
        }
        lines[to] = moved;
    }

    private void takeFault(Expander expander) {
        faultCode = expander.faultCode();
        faultLine = expander.faultLine();
        faultColumn = clipped(expander.faultColumn());
    }

    private int lengthOf(int at) {
        return clipped(scan.lengthOf(textOf(lines, at)));
    }

    /** A number that may be more than an int can tell. */
    private static int clipped(long number) {
        return (int) Math.min(number, MOST_INT);
    }

    /** The signs of a text; the same ones are told by the same String, which takes no more room. */
    private String tell(Tokens tokens, Codes text) {
        long length = tokens.lengthOf(text);
        int size = length <= MOST_TOLD ? (int) length : MOST_AT_HAND;
        tokens.tell(text, builder, size);
        if (size > MOST_AT_HAND) {
            String all = builder.toString();
            builder = new StringBuilder();
            return all;
        }
        boolean same = told.length() == size;
        for (int i = 0; i < size && same; i++) {
            same = told.charAt(i) == builder.charAt(i);
        }
        if (!same) {
            told = builder.toString();
        }
        return told;
    }

    /** Reads the TOKENS of a line; answers how many, or minus the code of the fault. */
    private long tokensOf(int at) {
        int ill = readTokens(textOf(lines, at));
        return ill < 0 ? ill : scan.placeOf(scanned, scanned.count);
    }

    /** Reads the TOKENS of a text; answers minus the code of the fault, or 0 or more. */
    private int readTokens(Codes text) {
        scan.restart();
        int start = scan.size();
        int count = scan.read(text);
        scanned.start = start;
        scanned.count = Math.max(count, 0);
        scan.openHead(scanned);
        return count;
    }

    private void writeFormOf(Codes text) {
        if (readTokens(text) < 0) {
            out.become(text);
        } else {
            scan.writeForm(scanned, out);
        }
    }

    /** Tells something of a TOKEN of the line that was read last. */
    private int factOfToken(int place, int what) {
        int token = (int) scan.find(scanned, place, false);
        int kind = token & 7;
        switch (what) {
            case 0:
                return kind;
            case 1:
                return clipped(scan.find(scanned, place, true));
            case 2:
                return clipped(scan.lengthOfToken(token));
            default:
                return kind == NUMBER || kind == SIGN ? token >> 3 : 0;
        }
    }

    // ---- texts from numbers

    private static boolean isAtom(int atom) {
        return atom >= 0 && atom <= 999 || atom >= 1000 && atom <= 1025 || atom >= 1100 && atom <= 1125
            || atom >= 1201 && atom <= 1203 || atom == 1300 || atom >= 2000 && atom <= 2255;
    }

    private static boolean isParameter(int atom) {
        return atom >= 1201 && atom <= 1203;
    }

    private static boolean isLine(int label, int order, int shape, int x, int y) {
        boolean isOrder = order >= 0 && order <= 19 || order >= 101 && order <= 126;
        return label >= 0 && label <= 52 && isOrder && shape >= 0 && shape <= 10 && isAtom(x) && isAtom(y);
    }

    private static void writeLine(Codes to, int label, int order, int shape, int x, int y) {
        to.cutTo(0);
        if (label > 26) {
            to.add('@');
        }
        if (label > 0) {
            to.add('a' + (label - 1) % 26);
            to.add(':');
        }
        if (order > 0) {
            writeGap(to);
            if (order > 100) {
                to.add('a' + order - 101);
            } else {
                writeWord(to, order);
            }
        }
        if (shape > 0) {
            writeGap(to);
            writeShape(to, shape, x, y);
        }
    }

    private static void writeGap(Codes to) {
        if (to.size() > 0) {
            to.add(' ');
        }
    }

    private static void writeWord(Codes to, int word) {
        int number = 1;
        for (int i = 0; i < WORDS.length(); i++) {
            char sign = WORDS.charAt(i);
            if (sign == ' ') {
                number++;
            } else if (number == word) {
                to.add(sign);
            }
        }
    }

    private static void writeShape(Codes to, int shape, int x, int y) {
        if (shape == 7) {
            to.add('(');
        }
        if (shape == 8) {
            to.add('-');
        }
        if (shape >= 9) {
            to.add('=');
        }
        writeAtom(to, x);
        char between = signBetween(shape);
        if (between != 0) {
            to.add(between);
            writeAtom(to, y);
        }
        if (shape == 7) {
            to.addAll(")*2");
        }
    }

    /** The sign that a SHAPE has between its ATOMS, 0 where it has just one of them. */
    private static char signBetween(int shape) {
        switch (shape) {
            case 2:
                return ',';
            case 3:
            case 7:
            case 10:
                return '+';
            case 4:
                return '-';
            case 5:
                return '*';
            case 6:
                return '/';
            default:
                return 0;
        }
    }

    private static void writeAtom(Codes to, int atom) {
        if (atom >= 2000) {
            to.add('$');
            to.addHex(atom - 2000, atom > 2015 ? 2 : 1);
        } else if (atom == 1300) {
            to.add('.');
        } else if (atom > 1200) {
            to.add('%');
            to.addNumber(atom - 1200);
        } else if (atom >= 1000) {
            if (atom >= 1100) {
                to.add('@');
            }
            to.add('a' + atom % 100);
        } else {
            to.addNumber(atom);
        }
    }

    // ---- an EXPRESSION by the SYMBOLS of the IMAGE

    /** Reckons a SHAPE; answers the code of the fault, or 0 where the VALUE is with the image's reckoner. */
    private int reckonShape(int shape, int x, int y) {
        char between = signBetween(shape);
        if (isParameter(x) || between != 0 && isParameter(y)) {
            return FAULT_ARGUMENT;
        }
        Reckoner reckoner = image.expander.reckoner;
        reckoner.begin();
        if (shape == 8) {
            reckoner.add(Reckoner.MINUS, '-', NONE, 0);
        }
        if (shape == 7) {
            reckoner.add(Reckoner.OPEN, '(', NONE, 0);
        }
        addAtom(x);
        if (between != 0) {
            reckoner.add(between == '*' || between == '/' ? Reckoner.TIMES : Reckoner.PLUS, between, NONE, 0);
            addAtom(y);
        }
        if (shape == 7) {
            reckoner.add(Reckoner.CLOSED, ')', NONE, 0);
            reckoner.add(Reckoner.TIMES, '*', NONE, 0);
            reckoner.add(Reckoner.VALUE, 2, NONE, 0);
        }
        reckoner.ends();
        return reckoner.missCode();
    }

    private void addAtom(int atom) {
        Reckoner reckoner = image.expander.reckoner;
        if (atom < 1000 || atom >= 2000) {
            reckoner.add(Reckoner.VALUE, atom < 1000 ? atom : atom - 2000, NONE, 0);
            return;
        }
        if (atom == 1300) {
            reckoner.add(Reckoner.FAULTY, FAULT_KNOWN, NONE, 0);
            return;
        }
        out.cutTo(0);
        out.add('a' + atom % 100);
        if (atom >= 1100) {
            out.addAll("_0");
        }
        int found = image.symbolNamed(out);
        Name name = image.symbolAt(found);
        if (found == NONE) {
            reckoner.add(Reckoner.FAULTY, FAULT_UNKNOWN, NONE, 0);
        } else {
            reckoner.add(Reckoner.VALUE, name.number, name.base, 0);
        }
    }

    /** A row of numbers that grows as it needs: TOKENS, what is told of MOVES, or the codes of a text (see Tokens). */
    private static final class Codes {
        private int[] all = new int[32];
        private int count;

        int size() {
            return count;
        }

        /** The number at a place, 0 where none stands. */
        int at(int place) {
            return place >= 0 && place < count ? all[place] : 0;
        }

        void set(int place, int code) {
            if (place >= 0 && place < count) {
                all[place] = code;
            }
        }

        void add(int code) {
            if (count >= all.length && count < MOST_ROOM) {
                all = Arrays.copyOf(all, count * 2);
            }
            if (count < all.length) {
                all[count] = code;
                count++;
            }
        }

        void addSome(Codes other, int from, int size) {
            if (from < 0 || size <= 0 || size > other.count - from || size > MOST_ROOM - count) {
                return;
            }
            if (count + size > all.length) {
                all = Arrays.copyOf(all, (count + size) * 2);
            }
            System.arraycopy(other.all, from, all, count, size);
            count += size;
        }

        /** Puts some of another row behind, the last number first. */
        void addBackwards(Codes other, int from, int size) {
            if (from < 0 || size <= 0 || size > other.count - from || size > MOST_ROOM - count) {
                return;
            }
            if (count + size > all.length) {
                all = Arrays.copyOf(all, (count + size) * 2);
            }
            for (int i = 0; i < size; i++) {
                all[count + i] = other.all[from + size - 1 - i];
            }
            count += size;
        }

        void addAll(String text) {
            for (int i = 0; i < text.length(); i++) {
                add(text.charAt(i));
            }
        }

        void addNumber(int number) {
            boolean begun = false;
            for (int unit = 10000; unit > 0; unit /= 10) {
                int digit = number / unit % 10;
                begun = begun || digit > 0 || unit == 1;
                if (begun) {
                    add('0' + digit);
                }
            }
        }

        void addHex(int number, int digits) {
            for (int shift = 4 * (digits - 1); shift >= 0; shift -= 4) {
                int digit = number >> shift & 15;
                add(digit < 10 ? '0' + digit : 'a' + digit - 10);
            }
        }

        void insert(int place, int code) {
            if (place < 0 || place > count) {
                return;
            }
            if (count >= all.length && count < MOST_ROOM) {
                all = Arrays.copyOf(all, count * 2);
            }
            if (count < all.length) {
                System.arraycopy(all, place, all, place + 1, count - place);
                all[place] = code;
                count++;
            }
        }

        /** Puts some of another row (or of this one, from ahead of the place) in place of one number. */
        void replace(int place, Codes other, int from, int size) {
            if (place < 0 || place >= count || from < 0 || size < 0 || size > other.count - from
                || size > MOST_ROOM - count) {
                return;
            }
            if (count + size > all.length) {
                all = Arrays.copyOf(all, (count + size) * 2);
            }
            System.arraycopy(all, place + 1, all, place + size, count - place - 1);
            System.arraycopy(other.all, from, all, place, size);
            count += size - 1;
        }

        int takeOut(int place) {
            if (place < 0 || place >= count) {
                return 0;
            }
            int code = all[place];
            System.arraycopy(all, place + 1, all, place, count - place - 1);
            count--;
            return code;
        }

        void cutTo(int size) {
            if (size >= 0 && size < count) {
                count = size;
            }
        }

        void become(Codes other) {
            count = 0;
            addSome(other, 0, other.count);
        }

        /** Puts a number with the count 1 behind the others (see Units). */
        void addOnce(int code) {
            if (DIGITS >= all.length - count && count < MOST_ROOM) {
                all = Arrays.copyOf(all, count * 2 + DIGITS);
            }
            if (DIGITS < all.length - count) {
                all[count] = code;
                all[count + 1] = 1;
                Arrays.fill(all, count + 2, count + 1 + DIGITS, 0);
                count += 1 + DIGITS;
            }
        }

        /** Adds a count of another row to one of this row, or takes it away (see Units). */
        void addCount(int at, Codes other, int otherAt, boolean takesAway) {
            if (at < 0 || otherAt < 0 || DIGITS > count - at || DIGITS > other.count - otherAt) {
                return;
            }
            int carry = 0;
            for (int i = 0; i < DIGITS; i++) {
                int its = other.all[otherAt + i];
                int digit = all[at + i] + (takesAway ? -its : its) + carry;
                all[at + i] = digit & HIGHEST_DIGIT;
                carry = digit >> DIGIT_BITS;
            }
        }

        /** Whether a count is 1. */
        boolean isOne(int at) {
            boolean one = at >= 0 && DIGITS <= count - at && all[at] == 1;
            for (int i = 1; i < DIGITS && one; i++) {
                one = all[at + i] == 0;
            }
            return one;
        }

        /** Tells by -1, 0, 1 whether a count is less than one of another row, the same or more. */
        int compareCount(int at, Codes other, int otherAt) {
            if (at < 0 || otherAt < 0 || DIGITS > count - at || DIGITS > other.count - otherAt) {
                return 0;
            }
            for (int i = DIGITS - 1; i >= 0; i--) {
                if (all[at + i] != other.all[otherAt + i]) {
                    return all[at + i] < other.all[otherAt + i] ? -1 : 1;
                }
            }
            return 0;
        }

        /** Whether so many numbers from a place on are those of another row from a place on. */
        boolean sameSome(int from, Codes other, int otherFrom, int size) {
            if (from < 0 || otherFrom < 0 || size > count - from || size > other.count - otherFrom) {
                return false;
            }
            for (int i = 0; i < size; i++) {
                if (all[from + i] != other.all[otherFrom + i]) {
                    return false;
                }
            }
            return true;
        }
    }

    /** What is known of a NAME (or of the text of a REMARK) while one source is assembled. */
    private static final class Name {
        private int from;
        private int size;
        private int next;
        // How many signs it has, what promise 41 makes of them, and 31 to the power of how many they are.
        private long length;
        private long sum;
        private long power;
        // The UNIT that all its signs are, if it is long (see Units).
        private int unit;
        private boolean marked;
        private int known;
        private int told;
        private int bodyFrom;
        private int bodyTo;
        private int kind;
        private int symbol = NONE;
        private int flat;
        private int weakFlat;
        private boolean shared;
        private boolean ready;
        private int number;
        private int base;

        void begin(int itsFrom, int itsSize, int itsNext, Name measured) {
            from = itsFrom;
            size = itsSize;
            next = itsNext;
            length = measured.length;
            sum = measured.sum;
            power = measured.power;
            unit = NONE;
            forget();
        }

        /** Nothing is known of it but its text. */
        void forget() {
            known = NOT_LET;
            told = 0;
            bodyFrom = NONE;
            bodyTo = NONE;
            kind = 0;
            symbol = NONE;
            flat = NONE;
            weakFlat = NONE;
            shared = false;
            ready = false;
            number = 0;
            base = NONE;
        }

        void become(int itsNumber, int itsBase) {
            number = itsNumber;
            base = itsBase;
            ready = true;
        }
    }

    /** Some TOKENS (NAMES, NUMBERS, SIGNS but ",", other PIECES) that stand in more than one row, written once. */
    private static final class Piece {
        private int from;
        private int size;
        private long tokens;
        private long length;
        private long sum;
        private long power;
        private int first;
        private int last;
        // What a parse has got to behind it, by what it had got to ahead of it.
        private final int[] after = new int[STATES];
        private boolean marked;
        // Which SYMBOLS stand in it, and whether a NAME that is none.
        private long usedLow;
        private long usedHigh;
        private boolean unknown;

        void begin(int itsFrom, int itsSize) {
            from = itsFrom;
            size = itsSize;
            tokens = 0;
            length = 0;
            sum = 0;
            power = 1;
            first = 0;
            last = 0;
        }

        int stateAfter(int state) {
            return state >= 0 && state < STATES ? after[state] : 0;
        }

        /** Takes over what does not hang on the numbers of NAMES. */
        void measureBy(Piece other) {
            tokens = other.tokens;
            length = other.length;
            sum = other.sum;
            power = other.power;
            System.arraycopy(other.after, 0, after, 0, STATES);
        }
    }

    /** A row of TOKENS: where it stands among all TOKENS, the number of its line, the word that its ORDER WORD is. */
    private static final class Row {
        private int start;
        private int count;
        private int line;
        private int word;
        // While a BODY is HANDLED for it: which rows are still to be HANDLED, and in which EXPANSION; how many rounds
        // are still to begin, and with which rows; where its ORDER WORD stands. (A row is HANDLED but once.)
        private int next;
        private int end;
        private int expansion;
        private int rounds;
        private int from;
        private int to;
        private boolean called;
        private int order;

        void beginBody(int itsOrder) {
            next = 0;
            end = 0;
            expansion = 0;
            rounds = 0;
            called = false;
            order = itsOrder;
        }
    }

    /**
     * All TOKENS of one source, each a number (8 * what it says + its kind), the NAMES in them, and the PIECES: what
     * stands in many rows is written once, so that a row may be longer than any room. A PIECE counts as one where a
     * row is told by places ("at"), and as all its TOKENS where it is told by a long "place".
     *
     * A text is a row of codes: a sign is its own code, SHARED + 2 * n is a long NAME, SHARED + 2 * n + 1 a PIECE.
     */
    private static final class Tokens {
        private static final int SLOTS = 128;
        private final Codes all = new Codes();
        private final ArrayList<Name> names = new ArrayList<Name>();
        private int nameCount;
        private final ArrayList<Piece> pieces = new ArrayList<Piece>();
        private int pieceCount;
        private final Name nobody = new Name();
        private final Piece nothing = new Piece();
        private final Codes letters = new Codes();
        private final int[] heads = new int[SLOTS];
        private final Name measured = new Name();
        private final Codes scrap = new Codes();
        private final Codes pending = new Codes();
        private long illColumn;
        // What a new source does not wipe: the words, and what the SOURCE's own texts share.
        private int keptItems;
        private int keptNames;
        private int keptPieces;
        // Where the NAMES and PIECES of another one were written here.
        private final Codes lentNames = new Codes();
        private final Codes lentPieces = new Codes();
        // Which NAME each one is.
        private final Codes united = new Codes();
        private final Units units = new Units();

        /** Wipes all but what is kept. */
        void restart() {
            if (keptNames == 0) {
                forgetAll();
                // The words come first, so that the number of such a NAME tells the word.
                scrap.cutTo(0);
                scrap.addAll(WORDS);
                int from = 0;
                for (int at = 0; at <= scrap.size(); at++) {
                    if (at == scrap.size() || scrap.at(at) == ' ') {
                        nameOf(scrap, from, at);
                        from = at + 1;
                    }
                }
                keepAll();
            }
            for (; nameCount > keptNames; nameCount--) {
                Name last = named(nameCount - 1);
                heads[slotOf(last.sum)] = last.next;
                letters.cutTo(last.from);
            }
            for (int i = 0; i < keptNames; i++) {
                named(i).forget();
            }
            pieceCount = keptPieces;
            all.cutTo(keptItems);
        }

        private void forgetAll() {
            nameCount = 0;
            pieceCount = 0;
            all.cutTo(0);
            letters.cutTo(0);
            Arrays.fill(heads, NONE);
            keptItems = 0;
            keptNames = 0;
            keptPieces = 0;
        }

        private void keepAll() {
            keptItems = all.size();
            keptNames = nameCount;
            keptPieces = pieceCount;
        }

        int size() {
            return all.size();
        }

        void cutTo(int size) {
            all.cutTo(size);
        }

        void add(int token) {
            all.add(token);
        }

        /** Puts TOKENS that stand somewhere behind the others once more. */
        void addAgain(int from, int to) {
            all.addSome(all, from, to - from);
        }

        // ---- from a text to TOKENS

        /** What a text of the lender is here. */
        Codes lent(Codes text) {
            pending.cutTo(0);
            for (int i = 0; i < text.size(); i++) {
                pending.add(own(text.at(i)));
            }
            return pending;
        }

        /** Puts the TOKENS of a text behind the others; answers how many places, or minus the code of the fault. */
        int read(Codes text) {
            int first = all.size();
            int at = 0;
            while (at < text.size()) {
                if (text.at(at) == ' ') {
                    at++;
                    continue;
                }
                if (text.at(at) == ';') {
                    readRemark(text, at + 1);
                    break;
                }
                int end = readOne(text, at);
                if (end <= at) {
                    measure(text, 0, at);
                    illColumn = measured.length;
                    all.cutTo(first);
                    return end < 0 ? end : -FAULT_SIGN;
                }
                at = end;
            }
            return all.size() - first;
        }

        long illColumn() {
            return illColumn;
        }

        /** Reads the TOKEN that begins at a sign; answers where it ends, or minus the code of the fault. */
        private int readOne(Codes text, int at) {
            int sign = text.at(at);
            if (isPiece(sign)) {
                all.add((sign - SHARED >> 1) * 8 + PIECE);
                return at + 1;
            }
            if (isLetter(sign) || sign >= SHARED) {
                int end = wordEnd(text, at);
                all.add(nameOf(text, at, end) * 8 + NAME);
                return end;
            }
            if (sign == '@' && isLetter(text.at(at + 1))) {
                int end = wordEnd(text, at + 1);
                all.add(nameOf(text, at + 1, end) * 8 + LOCAL);
                return end;
            }
            if (sign == '%' && text.at(at + 1) >= '1' && text.at(at + 1) <= '3') {
                all.add((text.at(at + 1) - '0') * 8 + PARAMETER);
                return at + 2;
            }
            if (sign == '$') {
                return readNumber(text, at + 1, 16);
            }
            if (isDigit(sign)) {
                return readNumber(text, at, 10);
            }
            if (SIGNS.indexOf((char) sign) >= 0) {
                all.add(sign * 8 + SIGN);
                return at + 1;
            }
            return -FAULT_SIGN;
        }

        private int readNumber(Codes text, int from, int base) {
            int number = 0;
            int at = from;
            while (at < text.size()) {
                int digit = digitOf(text.at(at), base);
                if (digit == NONE) {
                    break;
                }
                number = Math.min(number * base + digit, MOST_NUMBER + 1);
                at++;
            }
            if (at == from || number > MOST_NUMBER) {
                return at == from ? -FAULT_SIGN : -FAULT_NUMBER;
            }
            all.add(number * 8 + NUMBER);
            return at;
        }

        private void readRemark(Codes text, int begin) {
            int from = begin;
            int to = text.size();
            while (from < to && text.at(from) == ' ') {
                from++;
            }
            while (from < to && text.at(to - 1) == ' ') {
                to--;
            }
            all.add(nameOf(text, from, to) * 8 + REMARK);
        }

        private static boolean isLetter(int sign) {
            return sign >= 'a' && sign <= 'z';
        }

        private static boolean isDigit(int sign) {
            return sign >= '0' && sign <= '9';
        }

        private static int digitOf(int sign, int base) {
            if (sign >= '0' && sign <= '9') {
                return sign - '0';
            }
            return base == 16 && sign >= 'a' && sign <= 'f' ? sign - 'a' + 10 : NONE;
        }

        private static int wordEnd(Codes text, int from) {
            int end = from;
            while (end < text.size() && isOfWord(text.at(end))) {
                end++;
            }
            return end;
        }

        private static boolean isOfWord(int code) {
            return code >= 'a' && code <= 'z' || code >= '0' && code <= '9' || code == '_'
                || code >= SHARED && (code & 1) == 0;
        }

        private static boolean isPiece(int code) {
            return code >= SHARED && (code & 1) != 0;
        }

        // ---- NAMES

        /** The number of the NAME that some codes of a text are; a long one has one of its own until all are read. */
        int nameOf(Codes text, int from, int to) {
            int first = text.at(from);
            if (to == from + 1 && first >= SHARED) {
                return first - SHARED >> 1;
            }
            measure(text, from, to);
            int slot = slotOf(measured.sum);
            int found = measured.length > MOST_SPELLED ? NONE : heads[slot];
            for (int step = 0; step < nameCount && found != NONE; step++) {
                Name name = named(found);
                if (name.size == to - from && letters.sameSome(name.from, text, from, name.size)) {
                    return found;
                }
                found = name.next;
            }
            if (nameCount >= names.size()) {
                names.add(new Name());
            }
            names.get(nameCount).begin(letters.size(), to - from, heads[slot], measured);
            letters.addSome(text, from, to - from);
            heads[slot] = nameCount;
            nameCount++;
            return nameCount - 1;
        }

        /** NAMES with the same signs become one NAME, however they were put together. */
        void unite() {
            boolean any = false;
            units.begin();
            united.cutTo(0);
            for (int i = 0; i < nameCount; i++) {
                Name name = named(i);
                boolean isLong = name.length > MOST_SPELLED;
                int same = i;
                int older = isLong ? name.next : NONE;
                name.unit = isLong ? units.unitOf(letters, name.from, name.size) : units.ofNone();
                for (int step = 0; step < nameCount && older != NONE; step++) {
                    same = named(older).unit == name.unit ? older : same;
                    older = named(older).next;
                }
                united.add(same);
                any = any || same != i;
            }
            for (int at = 0; any && at < all.size(); at++) {
                int token = all.at(at);
                if ((token & 7) == NAME) {
                    all.set(at, united.at(token >> 3) * 8 + NAME);
                }
            }
        }

        private static int slotOf(long sum) {
            return (int) (sum ^ sum >>> 32) & SLOTS - 1;
        }

        /** The text of the NAME x_k that a LOCAL @x becomes. */
        Codes localText(int local, int expansion) {
            Name name = named(local);
            scrap.cutTo(0);
            scrap.addSome(letters, name.from, name.size);
            scrap.add('_');
            scrap.addNumber(expansion);
            return scrap;
        }

        Name named(int number) {
            return number >= 0 && number < nameCount && number < names.size() ? names.get(number) : nobody;
        }

        /** Whether a NAME is a text that is written out. */
        boolean isNamed(Name name, Codes text) {
            return name.size == text.size() && letters.sameSome(name.from, text, 0, name.size);
        }

        /** Whether a NAME is ahead of another one; both are not the same. */
        boolean isAhead(Name name, Name other) {
            if (name.unit != NONE && other.unit != NONE) {
                return units.compare(name.unit, other.unit) < 0;
            }
            long size = Math.min(name.length, other.length);
            for (int place = 0; place < size && place <= MOST_SPELLED; place++) {
                int letter = letterAt(name, place);
                int its = letterAt(other, place);
                if (letter != its) {
                    return letter < its;
                }
            }
            return name.length < other.length;
        }

        private int letterAt(Name name, long place) {
            int at = name.from;
            int end = name.from + name.size;
            long left = place;
            for (long step = 0; step < MOST_WALKED && at < end; step++) {
                int code = letters.at(at);
                Name part = code < SHARED ? nobody : named(code - SHARED >> 1);
                long length = code < SHARED ? 1 : part.length;
                if (left >= length) {
                    left -= length;
                    at++;
                } else if (code < SHARED) {
                    return code;
                } else {
                    at = part.from;
                    end = part.from + part.size;
                }
            }
            return 0;
        }

        /** Leaves in measured what is told of a NAME's length, for some codes of a text. */
        private void measure(Codes text, int from, int to) {
            long length = 0;
            long sum = 0;
            long power = 1;
            for (int i = from; i < to; i++) {
                int code = text.at(i);
                if (code < SHARED) {
                    length++;
                    sum = sum * 31 + code;
                    power *= 31;
                } else if (isPiece(code)) {
                    Piece piece = pieceAt(code - SHARED >> 1);
                    length = Math.min(length + piece.length, MOST_COUNTED);
                    sum = sum * piece.power + piece.sum;
                    power *= piece.power;
                } else {
                    Name name = named(code - SHARED >> 1);
                    length = Math.min(length + name.length, MOST_COUNTED);
                    sum = sum * name.power + name.sum;
                    power *= name.power;
                }
            }
            measured.length = length;
            measured.sum = sum;
            measured.power = power;
        }

        // ---- PIECES

        int pieceCount() {
            return pieceCount;
        }

        Piece pieceAt(int number) {
            return number >= 0 && number < pieceCount && number < pieces.size() ? pieces.get(number) : nothing;
        }

        private Piece newPiece(int from, int size) {
            if (pieceCount >= pieces.size()) {
                pieces.add(new Piece());
            }
            Piece piece = pieces.get(pieceCount);
            pieceCount++;
            piece.begin(from, size);
            return piece;
        }

        /** Whether TOKENS are so long that they are not written where they stand once more. */
        boolean isWorthSharing(int from, int size) {
            long length = 0;
            for (int i = 0; i < size && i < MOST_COPIED; i++) {
                length += lengthOfToken(all.at(from + i));
            }
            return size > 1 && (size > MOST_COPIED || length > MOST_SPELLED);
        }

        /** Makes a PIECE of TOKENS; answers where it stands, alone, among all TOKENS. */
        int share(int from, int size) {
            Piece piece = newPiece(from, size);
            for (int state = 0; state < STATES; state++) {
                piece.after[state] = state;
            }
            for (int i = 0; i < size; i++) {
                int token = all.at(from + i);
                Piece inner = (token & 7) == PIECE ? pieceAt(token >> 3) : null;
                int first = inner == null ? token : inner.first;
                long length = lengthOfToken(token);
                if (i == 0) {
                    piece.first = first;
                } else if (isBlank(piece.last, first, false)) {
                    piece.length++;
                    piece.sum = piece.sum * 31 + ' ';
                    piece.power *= 31;
                }
                piece.last = inner == null ? token : inner.last;
                piece.length = Math.min(piece.length + length, MOST_COUNTED);
                long power = powerOfToken(token, length);
                piece.sum = piece.sum * power + sumOfToken(token);
                piece.power *= power;
                piece.tokens = Math.min(piece.tokens + (inner == null ? 1 : inner.tokens), MOST_COUNTED);
                for (int state = 0; state < STATES; state++) {
                    int got = piece.after[state];
                    piece.after[state] = inner == null ? Reckoner.step(got, token) : inner.stateAfter(got);
                }
            }
            all.add((pieceCount - 1) * 8 + PIECE);
            return all.size() - 1;
        }

        private long sumOfToken(int token) {
            int worth = token >> 3;
            switch (token & 7) {
                case NAME:
                    return named(worth).sum;
                case PIECE:
                    return pieceAt(worth).sum;
                case NUMBER:
                    long sum = 0;
                    for (int unit = 10000; unit > 0; unit /= 10) {
                        sum = worth < unit && unit > 1 ? sum : sum * 31 + '0' + worth / unit % 10;
                    }
                    return sum;
                default:
                    return worth;
            }
        }

        /** 31 to the power of how many signs a TOKEN has (no more than five where it is no NAME). */
        private long powerOfToken(int token, long length) {
            if ((token & 7) == NAME) {
                return named(token >> 3).power;
            }
            if ((token & 7) == PIECE) {
                return pieceAt(token >> 3).power;
            }
            long power = 1;
            for (long left = length; left > 0; left--) {
                power *= 31;
            }
            return power;
        }

        private long tokensIn(int token) {
            return (token & 7) == PIECE ? pieceAt(token >> 3).tokens : 1;
        }

        /** What a parse has got to behind a TOKEN or PIECE (see Reckoner), 0 where it stops in it. */
        int stateAfter(int state, int token) {
            return (token & 7) == PIECE ? pieceAt(token >> 3).stateAfter(state) : Reckoner.step(state, token);
        }

        // ---- what is taken over from another one

        /** Marks what some texts need of the NAMES and PIECES here; answers whether they need any. */
        boolean mark(Codes[] texts, int count) {
            boolean any = false;
            for (int i = 0; i < count && i < texts.length; i++) {
                Codes text = texts[i];
                for (int at = 0; text != null && at < text.size(); at++) {
                    if (text.at(at) >= SHARED) {
                        if (!any) {
                            unmarkAll();
                        }
                        any = true;
                        markCode(text.at(at));
                    }
                }
            }
            // What a PIECE or NAME needs has lower numbers.
            for (int i = pieceCount - 1; i >= 0 && any; i--) {
                Piece piece = pieceAt(i);
                for (int at = piece.from; piece.marked && at < piece.from + piece.size; at++) {
                    int kind = all.at(at) & 7;
                    if (kind == NAME || kind == PIECE) {
                        markCode(SHARED + 2 * (all.at(at) >> 3) + (kind == PIECE ? 1 : 0));
                    }
                }
            }
            for (int i = nameCount - 1; i >= 0 && any; i--) {
                Name name = named(i);
                for (int at = name.from; name.marked && at < name.from + name.size; at++) {
                    markCode(letters.at(at));
                }
            }
            return any;
        }

        private void unmarkAll() {
            for (int i = 0; i < nameCount; i++) {
                named(i).marked = false;
            }
            for (int i = 0; i < pieceCount; i++) {
                pieceAt(i).marked = false;
            }
        }

        private void markCode(int code) {
            if (isPiece(code)) {
                pieceAt(code - SHARED >> 1).marked = true;
            } else if (code >= SHARED) {
                named(code - SHARED >> 1).marked = true;
            }
        }

        /** Takes over what is marked in another one. */
        void borrow(Tokens lender) {
            lentNames.cutTo(0);
            for (int i = 0; i < lender.nameCount; i++) {
                Name name = lender.named(i);
                scrap.cutTo(0);
                for (int at = name.from; name.marked && at < name.from + name.size; at++) {
                    scrap.add(own(lender.letters.at(at)));
                }
                lentNames.add(name.marked ? nameOf(scrap, 0, scrap.size()) : NONE);
            }
            lentPieces.cutTo(0);
            for (int i = 0; i < lender.pieceCount; i++) {
                Piece piece = lender.pieceAt(i);
                lentPieces.add(piece.marked ? pieceCount : NONE);
                if (piece.marked) {
                    int from = all.size();
                    for (int at = piece.from; at < piece.from + piece.size; at++) {
                        all.add(ownToken(lender.all.at(at)));
                    }
                    Piece taken = newPiece(from, piece.size);
                    taken.measureBy(piece);
                    taken.first = ownToken(piece.first);
                    taken.last = ownToken(piece.last);
                }
            }
        }

        /** What a code of the lender's texts is here. */
        private int own(int code) {
            if (code < SHARED) {
                return code;
            }
            int number = code - SHARED >> 1;
            return isPiece(code) ? SHARED + 2 * lentPieces.at(number) + 1 : SHARED + 2 * lentNames.at(number);
        }

        private int ownToken(int token) {
            switch (token & 7) {
                case NAME:
                    return lentNames.at(token >> 3) * 8 + NAME;
                case PIECE:
                    return lentPieces.at(token >> 3) * 8 + PIECE;
                default:
                    return token;
            }
        }

        /** The texts of the SOURCE are made of another one's from now on: they and what they share are taken over. */
        void takeOver(Codes[] texts, int count, Tokens lender) {
            for (int i = 0; i < count && i < texts.length; i++) {
                if (texts[i] != null) {
                    lender.spellShort(texts[i]);
                }
            }
            keptNames = 0;
            restart();
            if (!lender.mark(texts, count)) {
                return;
            }
            borrow(lender);
            keepAll();
            for (int i = 0; i < count && i < texts.length; i++) {
                Codes text = texts[i];
                for (int at = 0; text != null && at < text.size(); at++) {
                    text.set(at, own(text.at(at)));
                }
            }
        }

        // ---- rows

        /** The TOKEN or PIECE at a place of a row, 0 where it has none. */
        int tokenAt(Row row, int at) {
            return at >= 0 && at < row.count ? all.at(row.start + at) : 0;
        }

        /** The kind of a TOKEN, 0 where the row has none. */
        int kindAt(Row row, int at) {
            return at >= 0 && at < row.count ? all.at(row.start + at) & 7 : 0;
        }

        boolean isSign(Row row, int at, char sign) {
            return at >= 0 && at < row.count && all.at(row.start + at) == sign * 8 + SIGN;
        }

        Name nameAt(Row row, int at) {
            int token = at >= 0 && at < row.count ? all.at(row.start + at) : 0;
            return (token & 7) == NAME ? named(token >> 3) : nobody;
        }

        /** Where the first TOKEN of a kind stands outside PIECES, NONE without one. */
        int firstOfKind(Row row, int kind) {
            for (int at = 0; at < row.count; at++) {
                if (kindAt(row, at) == kind) {
                    return at;
                }
            }
            return NONE;
        }

        /** Where what stands behind LABEL and ":" begins, or the row. */
        int orderPlace(Row row) {
            int kind = all.at(row.start) & 7;
            boolean names = kind == NAME || kind == LOCAL || kind == PARAMETER;
            return row.count > 1 && names && all.at(row.start + 1) == ':' * 8 + SIGN ? 2 : 0;
        }

        /** The number of the word that the NAME at a place is, 0 where it is none. */
        int wordAt(Row row, int at) {
            int token = at < row.count ? all.at(row.start + at) : 0;
            int name = token >> 3;
            return (token & 7) == NAME && name < ELSE ? name + 1 : 0;
        }

        /** Each LOCAL of a row becomes the NAME that it is in an EXPANSION. */
        void nameLocals(Row row, int expansion) {
            for (int at = 0; at < row.count; at++) {
                int token = tokenAt(row, at);
                if ((token & 7) == LOCAL) {
                    Codes text = localText(token >> 3, expansion);
                    all.set(row.start + at, nameOf(text, 0, text.size()) * 8 + NAME);
                }
            }
        }

        /** Writes out what PIECES the last row begins with: LABEL, ":", ORDER WORD, "=" get places of their own. */
        void openHead(Row row) {
            int at = 0;
            for (long step = 0; step < MOST_WALKED && at < MOST_HEAD && at < row.count; step++) {
                int token = all.at(row.start + at);
                if ((token & 7) != PIECE) {
                    at++;
                    continue;
                }
                Piece piece = pieceAt(token >> 3);
                all.replace(row.start + at, all, piece.from, piece.size);
                row.count += piece.size - 1;
            }
        }

        /** How many TOKENS a row has ahead of what stands at a place (of its end: in all). */
        long placeOf(Row row, int at) {
            long place = 0;
            for (int i = 0; i < at && i < row.count; i++) {
                int token = all.at(row.start + i);
                place = Math.min(place + ((token & 7) == PIECE ? pieceAt(token >> 3).tokens : 1), MOST_COUNTED);
            }
            return place;
        }

        /** The COLUMN of the TOKEN at a place (of the row's end: END), or that TOKEN itself. */
        long find(Row row, long place, boolean column) {
            int from = row.start;
            int end = row.start + row.count;
            int order = row.start + orderPlace(row);
            int at = from;
            long left = place;
            long length = 0;
            for (long step = 0; step < MOST_WALKED && at < end; step++) {
                int token = all.at(at);
                if (at > from && isBlankBetween(all.at(at - 1), token, at - 1 == order)) {
                    length++;
                }
                if (left >= tokensIn(token)) {
                    left -= tokensIn(token);
                    length = Math.min(length + lengthOfToken(token), MOST_COUNTED);
                    at++;
                } else if ((token & 7) != PIECE) {
                    return column ? length : token;
                } else {
                    from = pieceAt(token >> 3).from;
                    end = from + pieceAt(token >> 3).size;
                    order = NONE;
                    at = from;
                }
            }
            return column ? length : 0;
        }

        // ---- from TOKENS to a text

        /** Writes the FORM of a row. */
        void writeForm(Row row, Codes to) {
            to.cutTo(0);
            writeSome(row.start, row.count, orderPlace(row), to);
        }

        void writeSome(int from, int size, int order, Codes to) {
            for (int at = 0; at < size; at++) {
                int token = all.at(from + at);
                if (at > 0 && isBlankBetween(all.at(from + at - 1), token, at - 1 == order)) {
                    to.add(' ');
                }
                writeToken(token, to);
            }
        }

        private boolean isBlankBetween(int token, int next, boolean isOrder) {
            int left = (token & 7) == PIECE ? pieceAt(token >> 3).last : token;
            int right = (next & 7) == PIECE ? pieceAt(next >> 3).first : next;
            return isBlank(left, right, isOrder);
        }

        private static boolean isBlank(int left, int right, boolean isOrder) {
            int kind = left & 7;
            if ((right & 7) == REMARK || left == ':' * 8 + SIGN || left == ',' * 8 + SIGN) {
                return true;
            }
            return isOrder && (kind == NAME || kind == PARAMETER) || kind <= NUMBER && (right & 7) <= NUMBER;
        }

        private void writeToken(int token, Codes to) {
            int worth = token >> 3;
            Name name = named(worth);
            switch (token & 7) {
                case NAME:
                    if (name.length > MOST_SPELLED) {
                        to.add(SHARED + 2 * worth);
                    } else {
                        to.addSome(letters, name.from, name.size);
                    }
                    break;
                case LOCAL:
                    to.add('@');
                    to.addSome(letters, name.from, name.size);
                    break;
                case PARAMETER:
                    to.add('%');
                    to.addNumber(worth);
                    break;
                case NUMBER:
                    to.addNumber(worth);
                    break;
                case SIGN:
                    to.add(worth);
                    break;
                case REMARK:
                    to.addAll(name.size > 0 ? "; " : ";");
                    to.addSome(letters, name.from, name.size);
                    break;
                case PIECE:
                    to.add(SHARED + 2 * worth + 1);
                    break;
                default:
                    break;
            }
        }

        long lengthOfToken(int token) {
            int worth = token >> 3;
            switch (token & 7) {
                case NAME:
                    return named(worth).length;
                case LOCAL:
                    return named(worth).length + 1;
                case PARAMETER:
                    return 2;
                case NUMBER:
                    return worth > 9999 ? 5 : worth > 999 ? 4 : worth > 99 ? 3 : worth > 9 ? 2 : 1;
                case REMARK:
                    return named(worth).size > 0 ? named(worth).length + 2 : 1;
                case PIECE:
                    return pieceAt(worth).length;
                default:
                    return 1;
            }
        }

        void writeName(Name name, Codes to) {
            to.addSome(letters, name.from, name.size);
        }

        // ---- texts

        long lengthOf(Codes text) {
            measure(text, 0, text.size());
            return measured.length;
        }

        /** What d of promise 41 becomes by all signs of a text. */
        long mixed(long d, Codes text) {
            measure(text, 0, text.size());
            return d * measured.power + measured.sum;
        }

        private long lengthOfCode(int code) {
            if (code < SHARED) {
                return 1;
            }
            return isPiece(code) ? pieceAt(code - SHARED >> 1).length : named(code - SHARED >> 1).length;
        }

        /** Writes what a NAME or PIECE in a text stands for, which may be others of these again. */
        private void spell(int code, Codes to) {
            int number = code - SHARED >> 1;
            to.cutTo(0);
            if (isPiece(code)) {
                writeSome(pieceAt(number).from, pieceAt(number).size, NONE, to);
            } else {
                to.addSome(letters, named(number).from, named(number).size);
            }
        }

        private void unfold(Codes text, int at) {
            spell(text.at(at), scrap);
            text.replace(at, scrap, 0, scrap.size());
        }

        /** A text that is short stands as its signs alone: any sign may be put in then. */
        void spellShort(Codes text) {
            if (lengthOf(text) >= MOST_WRITTEN) {
                return;
            }
            int at = 0;
            for (long step = 0; step < MOST_WALKED && at < text.size(); step++) {
                if (text.at(at) >= SHARED) {
                    spell(text.at(at), scrap);
                    text.replace(at, scrap, 0, scrap.size());
                } else {
                    at++;
                }
            }
        }

        /** Leaves in a text that is to be kept nothing that the next source wipes. */
        void spellUnkept(Codes text) {
            int at = 0;
            for (long step = 0; step < MOST_WALKED && at < text.size(); step++) {
                int code = text.at(at);
                int kept = isPiece(code) ? keptPieces : keptNames;
                if (code >= SHARED && code - SHARED >> 1 >= kept) {
                    unfold(text, at);
                } else {
                    at++;
                }
            }
        }

        /**
         * Whether a text is its FORM, in which each NAME stands as in the text. If it is, both have the same codes but
         * for PIECES at the head, which are written out in the FORM alone.
         */
        boolean isForm(Codes text, Codes form) {
            int at = 0;
            for (long step = 0; step < MOST_WALKED && (at < text.size() || at < form.size()); step++) {
                int code = text.at(at);
                if (code == form.at(at)) {
                    at++;
                } else if (isPiece(code)) {
                    unfold(text, at);
                } else {
                    return false;
                }
            }
            return true;
        }

        /** The place of the code that stands at a column, which is a sign then. */
        int openAt(Codes text, long column) {
            long left = column;
            int at = 0;
            for (long step = 0; step < MOST_WALKED && at < text.size(); step++) {
                int code = text.at(at);
                long length = lengthOfCode(code);
                if (left >= length) {
                    left -= length;
                    at++;
                } else if (code < SHARED) {
                    break;
                } else {
                    unfold(text, at);
                }
            }
            return at;
        }

        /** What comes together at a place may be one TOKEN now: no PIECE may end or begin in it. */
        void close(Codes text, int place) {
            int at = place;
            for (long step = 0; step < MOST_WALKED && at > 0 && at < text.size(); step++) {
                if (!endsInWord(text.at(at - 1)) || !beginsInWord(text.at(at))) {
                    return;
                }
                if (isPiece(text.at(at - 1))) {
                    int size = text.size();
                    unfold(text, at - 1);
                    at += text.size() - size;
                } else if (isPiece(text.at(at))) {
                    unfold(text, at);
                } else {
                    return;
                }
            }
        }

        private boolean endsInWord(int code) {
            return isPiece(code) ? (pieceAt(code - SHARED >> 1).last & 7) <= NUMBER : isOfWord(code);
        }

        private boolean beginsInWord(int code) {
            return isPiece(code) ? (pieceAt(code - SHARED >> 1).first & 7) <= NUMBER : isOfWord(code);
        }

        int signIn(Codes text, long column) {
            long left = column;
            int at = 0;
            Codes level = text;
            for (long step = 0; step < MOST_WALKED && at < level.size(); step++) {
                int code = level.at(at);
                long length = lengthOfCode(code);
                if (left >= length) {
                    left -= length;
                    at++;
                } else if (code < SHARED) {
                    return code;
                } else {
                    spell(code, scrap);
                    level = scrap;
                    at = 0;
                }
            }
            return 0;
        }

        /** Writes the first signs of a text. */
        void tell(Codes text, StringBuilder to, int size) {
            to.setLength(size);
            pending.cutTo(0);
            int place = 0;
            int at = 0;
            for (long step = 0; step < MOST_WALKED && place < size; step++) {
                int code = pending.size() > 0 ? pending.takeOut(pending.size() - 1) : text.at(at++);
                if (code < SHARED) {
                    to.setCharAt(place, (char) code);
                    place++;
                } else {
                    spell(code, scrap);
                    pending.addBackwards(scrap, 0, scrap.size());
                }
            }
        }
    }

    /**
     * Tells NAMES apart by all their signs, also where these are too many to be written out. The signs of a NAME are
     * drawn together step by step until one UNIT is left: at odd steps what follows itself (once or more), at even ones
     * some pairs. Which ones hangs on the two neighbours alone, so that the same signs become the same UNIT however the
     * NAME was put together, and unlike signs never do.
     *
     * A part of a NAME that is a NAME itself is drawn together but once: at each step it gives up, on its left and on
     * its right, what might be drawn to its neighbours there. These are its edges.
     */
    private static final class Units {
        private static final int SLOTS = 4096;
        // A UNIT has two others, or one of them so many times (told by where that count stands), and its step.
        private static final int RIGHT = 1;
        private static final int STEP = 2;
        private static final int NEXT = 3;
        private static final int UNIT_SIZE = 4;
        // An item is a UNIT with its count, or minus a NAME's number less 1.
        private static final int ITEM_SIZE = 1 + DIGITS;
        private static final int EDGE_SIZE = 2 * ITEM_SIZE + 1;
        private final Codes units = new Codes();
        private final Codes counts = new Codes();
        private int[] heads = new int[0];
        // Where the edges of each NAME begin.
        private final Codes starts = new Codes();
        private final Codes edges = new Codes();
        private final Codes now = new Codes();
        private final Codes wide = new Codes();
        private int first;
        private int behind;

        /** Forgets the NAMES of before, but no UNIT. */
        void begin() {
            starts.cutTo(0);
            edges.cutTo(0);
        }

        /** Passes over a NAME that is no part of others. */
        int ofNone() {
            starts.add(0);
            return NONE;
        }

        /** The UNIT of the next NAME, which is made of signs and of NAMES before it. */
        int unitOf(Codes letters, int from, int size) {
            int number = starts.size();
            starts.add(edges.size());
            now.cutTo(0);
            for (int i = from; i < from + size; i++) {
                int code = letters.at(i);
                now.addOnce(code < SHARED ? code : ~(code - SHARED >> 1));
            }
            for (int step = 1; step < MOST_STEPS && now.size() > 0; step++) {
                spread(step);
                giveUpEdges(step);
                draw(step);
            }
            now.cutTo(0);
            now.addOnce(~number);
            for (int step = 1; step < MOST_STEPS && (now.size() > ITEM_SIZE || now.at(0) < 0); step++) {
                spread(step);
                first = 0;
                behind = wide.size();
                draw(step);
            }
            return now.at(0);
        }

        /** Lets each NAME give up its edges. */
        private void spread(int step) {
            boolean runs = (step & 1) != 0;
            wide.cutTo(0);
            for (int at = 0; at < now.size(); at += ITEM_SIZE) {
                int item = now.at(at);
                if (item >= 0) {
                    take(now, at, runs);
                    continue;
                }
                int edge = starts.at(~item) + (step - 1) * EDGE_SIZE;
                if (edges.at(edge) != NONE) {
                    take(edges, edge, runs);
                }
                if (edges.at(edge + 2 * ITEM_SIZE) != 0) {
                    take(now, at, false);
                }
                if (edges.at(edge + ITEM_SIZE) != NONE) {
                    take(edges, edge + ITEM_SIZE, runs);
                }
            }
        }

        /** Puts an item behind the others, or its count to that of the last one. */
        private void take(Codes from, int at, boolean runs) {
            int last = wide.size() - ITEM_SIZE;
            if (runs && last >= 0 && wide.at(last) == from.at(at)) {
                wide.addCount(last + 1, from, at + 1, false);
            } else {
                wide.addSome(from, at, ITEM_SIZE);
            }
        }

        /** Keeps the edges of the NAME that is gone through, and leaves what is between them. */
        private void giveUpEdges(int step) {
            boolean runs = (step & 1) != 0;
            first = 0;
            behind = wide.size();
            int item = behind > 0 ? wide.at(0) : NONE;
            if (item >= 0 && (runs || isOnTheRight(item, step))) {
                edges.addSome(wide, 0, ITEM_SIZE);
                first = ITEM_SIZE;
            } else {
                edges.addOnce(NONE);
            }
            item = behind > first ? wide.at(behind - ITEM_SIZE) : NONE;
            if (item >= 0 && (runs || !isOnTheRight(item, step))) {
                behind -= ITEM_SIZE;
                edges.addSome(wide, behind, ITEM_SIZE);
            } else {
                edges.addOnce(NONE);
            }
            edges.add(behind > first ? 1 : 0);
        }

        /** Draws together what a step draws together. */
        private void draw(int step) {
            boolean runs = (step & 1) != 0;
            now.cutTo(0);
            for (int at = first; at < behind; at += ITEM_SIZE) {
                int item = wide.at(at);
                int next = at + ITEM_SIZE;
                if (item >= 0 && runs) {
                    item = wide.isOne(at + 1) ? item : unitFor(item, NONE, at + 1, step);
                } else if (item >= 0 && next < behind && wide.at(next) >= 0 && !isOnTheRight(item, step)
                    && isOnTheRight(wide.at(next), step)) {
                    item = unitFor(item, wide.at(next), 0, step);
                    at = next;
                }
                now.addOnce(item);
            }
        }

        /** On which side of a pair a UNIT may stand at a step: for each step about half of them on each side. */
        private static boolean isOnTheRight(int unit, int step) {
            // At some steps a digit of its number decides, so that no two stay on the same side for ever.
            if ((step & 14) == 14) {
                return (unit >> (step >> 4) & 1) == (step >> 9 & 1);
            }
            long mixed = unit * 0x9E3779B97F4A7C15L + step * 0xD1B54A32D192ED03L;
            mixed = (mixed ^ mixed >>> 32) * 0xBF58476D1CE4E5B9L;
            mixed = (mixed ^ mixed >>> 29) * 0x94D049BB133111EBL;
            return mixed < 0;
        }

        /** The UNIT of two others, or (without a right one) of one of them as often as a count in wide tells. */
        private int unitFor(int left, int right, int count, int step) {
            if (heads.length == 0) {
                heads = new int[SLOTS];
            }
            int slot = left * 31 + right;
            for (int i = 0; right < 0 && i < DIGITS; i++) {
                slot = slot * 31 + wide.at(count + i);
            }
            slot = (slot ^ slot >>> 12 ^ slot >>> 24) & SLOTS - 1;
            int found = heads[slot] - 1;
            for (int tries = 0; tries < units.size() && found >= 0; tries++) {
                int at = found * UNIT_SIZE;
                int its = units.at(at + RIGHT);
                if (units.at(at) == left
                    && (right >= 0 ? its == right : its < 0 && counts.sameSome(~its, wide, count, DIGITS))) {
                    return SHARED + found;
                }
                found = units.at(at + NEXT);
            }
            units.add(left);
            units.add(right >= 0 ? right : ~counts.size());
            units.add(step);
            units.add(heads[slot] - 1);
            heads[slot] = units.size() / UNIT_SIZE;
            if (right < 0) {
                counts.addSome(wide, count, DIGITS);
            }
            return SHARED + heads[slot] - 1;
        }

        private int stepOf(int unit) {
            return unit < SHARED ? 0 : units.at((unit - SHARED) * UNIT_SIZE + STEP);
        }

        /** Tells by -1, 0, 1 whether the signs of a UNIT are ahead of those of another one, the same or behind. */
        int compare(int unit, int other) {
            now.cutTo(0);
            now.addOnce(unit);
            wide.cutTo(0);
            wide.addOnce(other);
            for (long step = 0; step < MOST_WALKED && now.size() > 0 && wide.size() > 0; step++) {
                int ours = now.at(now.size() - ITEM_SIZE);
                int theirs = wide.at(wide.size() - ITEM_SIZE);
                if (ours == theirs) {
                    dropSame();
                } else if (ours < SHARED && theirs < SHARED) {
                    return ours < theirs ? -1 : 1;
                } else if (stepOf(ours) >= stepOf(theirs)) {
                    open(now);
                } else {
                    open(wide);
                }
            }
            return Math.min(now.size(), 1) - Math.min(wide.size(), 1);
        }

        /** Drops the UNIT with which both begin, as often as it comes in both. */
        private void dropSame() {
            int ours = now.size() - ITEM_SIZE;
            int theirs = wide.size() - ITEM_SIZE;
            int order = now.compareCount(ours + 1, wide, theirs + 1);
            if (order < 0) {
                wide.addCount(theirs + 1, now, ours + 1, true);
            } else if (order > 0) {
                now.addCount(ours + 1, wide, theirs + 1, true);
            }
            if (order <= 0) {
                now.cutTo(ours);
            }
            if (order >= 0) {
                wide.cutTo(theirs);
            }
        }

        /** Puts what the last UNIT of a row is drawn together from in its place, the first part last. */
        private void open(Codes row) {
            int last = row.size() - ITEM_SIZE;
            int at = (row.at(last) - SHARED) * UNIT_SIZE;
            int right = units.at(at + RIGHT);
            if (row.isOne(last + 1)) {
                row.cutTo(last);
            } else {
                boolean borrows = true;
                for (int i = last + 1; i < row.size() && borrows; i++) {
                    borrows = row.at(i) == 0;
                    row.set(i, row.at(i) - 1 & HIGHEST_DIGIT);
                }
            }
            if (right >= 0) {
                row.addOnce(right);
                row.addOnce(units.at(at));
            } else {
                row.add(units.at(at));
                row.addSome(counts, ~right, DIGITS);
            }
        }
    }

    /**
     * Reads EXPRESSIONS and reckons them. A row is reckoned into a list of items: VALUES, and signs that wait. A PIECE
     * is reckoned but once, into such a list, too, which tells what it does to anything that stands ahead of it:
     * FACTORS are a run of "*" and "/" that goes on with a PRODUCT begun there, TERMS a run of "+" and "-" that goes on
     * with a sum begun there. What TERMS do is told by a few numbers, what FACTORS do is remembered.
     */
    private static final class Reckoner {
        private static final int VALUE = 1;
        private static final int CLOSED = 2;
        private static final int FACTORS = 3;
        private static final int TERMS = 4;
        private static final int FAULTY = 5;
        // Behind these a FACTOR must follow. With TIMES (* or /) and PLUS (+ or -) the number is the sign.
        private static final int OPEN = 6;
        private static final int MINUS = 7;
        private static final int TIMES = 8;
        private static final int PLUS = 9;
        // An item: its kind, a number (or sign, NODE, code of a fault), BASE, place (of a PIECE's items: in the PIECE).
        private static final int ITEM_SIZE = 4;
        // A NODE is a sign, a number and its BASE, or two NODES and how much further the second one stands.
        private static final int JOINED = 0;
        private static final int SIGN_OR_FIRST = 1;
        private static final int NUMBER_OR_SECOND = 2;
        private static final int BASE_OR_DISTANCE = 3;
        // With TERMS: what they add in all, at least and at most on the way, the BASE that they ask for and make.
        private static final int ADDS = 4;
        private static final int LEAST = 5;
        private static final int MOST = 6;
        private static final int ASKS = 7;
        private static final int MAKES = 8;
        private static final int NODE_SIZE = 9;
        private static final int ANY_BASE = -2;
        private static final int NEVER = -3;
        private static final int MOST_APART = 2 * MOST_NUMBER;
        // What FACTORS make of a number: NODE, number, what it becomes, where the next one with the same slot stands.
        private static final int SLOTS = 4096;
        private static final int MEMORY_SIZE = 4;

        private final Tokens tokens = new Tokens();
        private int missCode;
        private long missPlace;
        private int[] items = new int[64 * ITEM_SIZE];
        private int itemCount;
        // Where the list begins that is made now, and of what PIECE it is: 2 * that + whether it begins with a FACTOR.
        private int bottom;
        private int begun;
        private int at;
        private int end;
        private int place;
        // What was begun and is to be gone on with, that which was begun last behind all else.
        private final Codes waiting = new Codes();
        private int reckonings;
        private int[] nodes = new int[64 * NODE_SIZE];
        private int nodeCount;
        // The lists of PIECES; of each: the reckoning for which it is right, where it begins and ends.
        private final Codes kept = new Codes();
        private final Codes lists = new Codes();
        private int number;
        private int base;
        // For each slot where the last one stands, and what is remembered.
        private int[] remembered = new int[0];
        private int rememberedSize;

        int missCode() {
            return missCode;
        }

        long missPlace() {
            return missPlace;
        }

        int number() {
            return number;
        }

        int base() {
            return base;
        }

        private int miss(int code, long itsPlace) {
            missCode = code;
            missPlace = itsPlace;
            return NONE;
        }

        // ---- reading

        /**
         * Goes one TOKEN further in an EXPRESSION. Told are, as bits: a 1, then of what is open 0 for a "(" and 1 for
         * a "-" (three at most), then 1 if a FACTOR must follow. 0 is told where it cannot go on so.
         */
        static int step(int state, int token) {
            int open = state >> 1;
            int sign = (token & 7) == SIGN ? token >> 3 : 0;
            if (open == 0) {
                return 0;
            }
            if ((state & 1) != 0) {
                if (sign == '(' || sign == '-') {
                    return open >= 1 << MOST_INSIDE ? 0 : (open * 2 + (sign == '-' ? 1 : 0)) * 2 + 1;
                }
                if (sign != '.' && (token & 7) != NUMBER && (token & 7) != NAME) {
                    return 0;
                }
            } else {
                if (sign == '+' || sign == '-' || sign == '*' || sign == '/') {
                    return state + 1;
                }
                if (sign != ')' || open == 1) {
                    return 0;
                }
                open >>= 1;
            }
            // A FACTOR is there: each "-" before it is no longer open.
            while (open > 1 && (open & 1) != 0) {
                open >>= 1;
            }
            return open * 2;
        }

        /** Reads the EXPRESSION that begins at a place of a row; answers where it ends, or NONE with a fault. */
        int parse(Row row, int begin) {
            int state = 3;
            for (int at = begin; at < row.count; at++) {
                int token = tokens.tokenAt(row, at);
                int next = tokens.stateAfter(state, token);
                if (next == 0) {
                    boolean ends = isWhole(state) && (token & 7) != PIECE;
                    return ends ? at : missIn(row, at, state, tokens.placeOf(row, at));
                }
                state = next;
            }
            return isWhole(state) ? row.count : miss(FAULT_LINE, tokens.placeOf(row, row.count));
        }

        /** Whether an EXPRESSION may end there. */
        private static boolean isWhole(int state) {
            return state == 2;
        }

        /** Finds the TOKEN where a parse could not go on, from a place to which it had got. */
        private int missIn(Row row, int begin, int begun, long firstPlace) {
            int state = begun;
            int at = row.start + begin;
            int end = row.start + row.count;
            long itsPlace = firstPlace;
            for (long step = 0; step < MOST_WALKED && at < end; step++) {
                int token = tokens.all.at(at);
                Piece inner = (token & 7) == PIECE ? tokens.pieceAt(token >> 3) : null;
                int next = inner == null ? step(state, token) : inner.stateAfter(state);
                if (next != 0) {
                    state = next;
                    itsPlace = Math.min(itsPlace + (inner == null ? 1 : inner.tokens), MOST_COUNTED);
                    at++;
                } else if (inner != null) {
                    at = inner.from;
                    end = at + inner.size;
                } else {
                    boolean opens = token == '(' * 8 + SIGN || token == '-' * 8 + SIGN;
                    return miss(opens && (state & 1) != 0 ? FAULT_DEEP : FAULT_LINE, itsPlace);
                }
            }
            return miss(FAULT_LINE, itsPlace);
        }

        // ---- reckoning

        /**
         * Reckons an EXPRESSION of a row that was read without a fault; answers whether there is none in reckoning. It
         * is reckoned by KNOWN NAMES alone, or by the SYMBOLS for a FLAT line at that OFFSET in that PART.
         */
        boolean reckon(Row row, int from, int to, boolean known, int offset, int part) {
            begin();
            at = row.start + from;
            end = row.start + to;
            place = (int) Math.min(tokens.placeOf(row, from), MOST_INT);
            for (long step = 0; step < MOST_WALKED && (waiting.size() > 0 || at < end && !fails()); step++) {
                int token = at < end && !fails() ? tokens.all.at(at) : 0;
                int piece = token >> 3;
                if (token == 0) {
                    leave();
                } else if ((token & 7) != PIECE) {
                    int kind = kindOf(token, known, offset, part);
                    add(kind, number, base, place);
                    place = later(place, 1);
                    at++;
                } else if (!isKept(2 * piece + wants())) {
                    enter(piece);
                } else {
                    int list = 3 * (2 * piece + wants());
                    for (int i = lists.at(list + 1); i < lists.at(list + 2) && !fails(); i += ITEM_SIZE) {
                        add(kept.at(i), kept.at(i + 1), kept.at(i + 2), later(place, kept.at(i + 3)));
                    }
                    place = later(place, tokens.pieceAt(piece).tokens);
                    at++;
                }
            }
            return ends();
        }

        /** Begins to reckon: as if all stood in parentheses, so that nothing stands ahead of it. */
        void begin() {
            itemCount = 0;
            bottom = 0;
            begun = 0;
            nodeCount = 0;
            waiting.cutTo(0);
            kept.cutTo(0);
            reckonings++;
            if (rememberedSize > SLOTS) {
                Arrays.fill(remembered, 0, SLOTS, 0);
                rememberedSize = SLOTS;
            }
            append(OPEN, 0, NONE, 0);
        }

        /** Ends the reckoning; answers whether there was no fault. */
        boolean ends() {
            settle();
            int top = (itemCount - 1) * ITEM_SIZE;
            boolean fails = fails();
            missCode = fails ? items[top + 1] : 0;
            missPlace = fails ? items[top + 3] : 0;
            number = fails ? 0 : top > 0 ? items[top + 1] : 0;
            base = fails ? NONE : top > 0 ? items[top + 2] : NONE;
            return !fails;
        }

        boolean fails() {
            return kindAt(itemCount - 1) == FAULTY;
        }

        private static int later(int place, long distance) {
            return (int) Math.min(place + distance, MOST_INT);
        }

        private int kindAt(int item) {
            return item >= bottom && item < itemCount ? items[item * ITEM_SIZE] : 0;
        }

        /** Whether a FACTOR must follow (1) or not (0). */
        private int wants() {
            int kind = kindAt(itemCount - 1);
            return kind == 0 ? begun & 1 : kind >= OPEN ? 1 : 0;
        }

        /** The kind of item that a TOKEN is; its number and BASE are left in the fields. */
        private int kindOf(int token, boolean known, int offset, int part) {
            number = token >> 3;
            base = NONE;
            if ((token & 7) == NUMBER) {
                return VALUE;
            }
            if ((token & 7) == NAME) {
                Name name = tokens.named(number);
                boolean stands = known ? name.known == LET_KNOWN : name.ready;
                number = known ? name.told : name.number;
                base = known ? NONE : name.base;
                return stands ? VALUE : faulty(known ? FAULT_KNOWN : FAULT_UNKNOWN);
            }
            switch (number) {
                case '.':
                    number = offset;
                    base = part;
                    return known ? faulty(FAULT_KNOWN) : VALUE;
                case '(':
                    return OPEN;
                case ')':
                    return CLOSED;
                case '+':
                    return PLUS;
                case '-':
                    return wants() == 1 ? MINUS : PLUS;
                default:
                    return TIMES;
            }
        }

        private int faulty(int code) {
            number = code;
            return FAULTY;
        }

        private void append(int kind, int itsNumber, int itsBase, int itsPlace) {
            int at = itemCount * ITEM_SIZE;
            if (at + ITEM_SIZE > items.length && itemCount < MOST_ROOM) {
                items = Arrays.copyOf(items, items.length * 2);
            }
            if (at + ITEM_SIZE <= items.length) {
                items[at] = kind;
                items[at + 1] = itsNumber;
                items[at + 2] = itsBase;
                items[at + 3] = itsPlace;
                itemCount++;
            }
        }

        /** Adds an item to the list, and reckons what can be reckoned now. */
        void add(int kind, int itsNumber, int itsBase, int itsPlace) {
            if (kind == PLUS || kind == CLOSED || kind == TERMS) {
                settle();
            }
            if (fails()) {
                return;
            }
            if (kind == VALUE) {
                arrive(itsNumber, itsBase);
            } else if (kind == FACTORS) {
                multiply(itsNumber, itsPlace);
            } else if (kind == TERMS) {
                sumUp(itsNumber, itsPlace);
            } else if (kind == CLOSED && kindAt(itemCount - 1) == VALUE && kindAt(itemCount - 2) == OPEN) {
                int top = (itemCount - 1) * ITEM_SIZE;
                itemCount -= 2;
                arrive(items[top + 1], items[top + 2]);
            } else {
                append(kind, itsNumber, itsBase, itsPlace);
            }
        }

        /** Takes a FACTOR in: each "-" ahead of it is reckoned, then what it is to be multiplied with. */
        private void arrive(int itsNumber, int itsBase) {
            int code = 0;
            int top = (itemCount - 1) * ITEM_SIZE;
            number = itsNumber;
            base = itsBase;
            while (code == 0 && kindAt(itemCount - 1) == MINUS) {
                code = base != NONE ? FAULT_BASE : 0;
                number = -number;
                itemCount--;
                top -= ITEM_SIZE;
            }
            if (code != 0) {
                append(FAULTY, code, NONE, items[top + ITEM_SIZE + 3]);
                return;
            }
            if (kindAt(itemCount - 1) != TIMES) {
                append(VALUE, number, base, 0);
                return;
            }
            int its = items[top + 3];
            if (kindAt(itemCount - 2) == VALUE && kindAt(itemCount - 3) >= OPEN) {
                int left = top - ITEM_SIZE;
                itemCount -= 2;
                code = join(items[top + 1], items[left + 1], items[left + 2], number, base);
                append(code == 0 ? VALUE : FAULTY, code == 0 ? number : code, base, its);
                return;
            }
            itemCount--;
            int leaf = addLeaf(items[top + 1], number, base);
            if (!joins(FACTORS, leaf, its)) {
                append(FACTORS, leaf, NONE, its);
            }
        }

        /** A PRODUCT is whole: the + or - ahead of it is reckoned. */
        private void settle() {
            if (kindAt(itemCount - 1) != VALUE || kindAt(itemCount - 2) != PLUS) {
                return;
            }
            int top = (itemCount - 1) * ITEM_SIZE;
            int sign = items[top - ITEM_SIZE + 1];
            int its = items[top - ITEM_SIZE + 3];
            if (kindAt(itemCount - 3) == VALUE && kindAt(itemCount - 4) == OPEN) {
                int left = top - 2 * ITEM_SIZE;
                itemCount -= 3;
                int code = join(sign, items[left + 1], items[left + 2], items[top + 1], items[top + 2]);
                append(code == 0 ? VALUE : FAULTY, code == 0 ? number : code, base, its);
                return;
            }
            itemCount -= 2;
            int leaf = addLeaf(sign, items[top + 1], items[top + 2]);
            if (!joins(TERMS, leaf, its)) {
                append(TERMS, leaf, NONE, its);
            }
        }

        /** Reckons what a sign joins; it is left in the fields. Answers the code of the fault. */
        private int join(int sign, int left, int leftBase, int right, int rightBase) {
            boolean adds = sign == '+';
            boolean takes = sign == '-';
            if (adds ? leftBase != NONE && rightBase != NONE
                : takes ? rightBase != NONE && rightBase != leftBase : leftBase != NONE || rightBase != NONE) {
                return FAULT_BASE;
            }
            if (sign == '/' && right == 0) {
                return FAULT_ZERO;
            }
            long joined = adds ? (long) left + right : takes ? (long) left - right
                : sign == '*' || right == 0 ? (long) left * right : left / right;
            if (joined > MOST_NUMBER || joined < -MOST_NUMBER) {
                return FAULT_RANGE;
            }
            number = (int) joined;
            base = rightBase == NONE ? leftBase : takes ? NONE : rightBase;
            return 0;
        }

        // ---- lists of PIECES

        private boolean isKept(int list) {
            return lists.at(3 * list) == reckonings;
        }

        private void enter(int piece) {
            waiting.add(at);
            waiting.add(end);
            waiting.add(place);
            waiting.add(bottom);
            waiting.add(begun);
            begun = 2 * piece + wants();
            bottom = itemCount;
            at = tokens.pieceAt(piece).from;
            end = at + tokens.pieceAt(piece).size;
            place = 0;
        }

        /** Keeps the list of the PIECE entered last, and goes on where that stands. */
        private void leave() {
            int list = 3 * begun;
            for (int size = lists.size(); size < list + 3; size++) {
                lists.add(0);
            }
            lists.set(list, reckonings);
            lists.set(list + 1, kept.size());
            for (int i = bottom * ITEM_SIZE; i < itemCount * ITEM_SIZE; i++) {
                kept.add(items[i]);
            }
            lists.set(list + 2, kept.size());
            itemCount = bottom;
            begun = waiting.takeOut(waiting.size() - 1);
            bottom = waiting.takeOut(waiting.size() - 1);
            place = waiting.takeOut(waiting.size() - 1);
            end = waiting.takeOut(waiting.size() - 1);
            at = waiting.takeOut(waiting.size() - 1);
        }

        // ---- NODES

        private int nodeAt(int node, int what) {
            return node >= 0 && node < nodeCount ? nodes[node * NODE_SIZE + what] : 0;
        }

        /** Makes a NODE of a sign and what stands behind it. */
        private int addLeaf(int sign, int itsNumber, int itsBase) {
            int leaf = nodeCount * NODE_SIZE;
            if (leaf + NODE_SIZE > nodes.length && nodes.length < MOST_ROOM) {
                nodes = Arrays.copyOf(nodes, nodes.length * 2);
            }
            if (leaf + NODE_SIZE > nodes.length) {
                return NONE;
            }
            int adds = sign == '-' ? -itsNumber : itsNumber;
            nodes[leaf + JOINED] = 0;
            nodes[leaf + SIGN_OR_FIRST] = sign;
            nodes[leaf + NUMBER_OR_SECOND] = itsNumber;
            nodes[leaf + BASE_OR_DISTANCE] = itsBase;
            nodes[leaf + ADDS] = adds;
            nodes[leaf + LEAST] = adds;
            nodes[leaf + MOST] = adds;
            nodes[leaf + ASKS] = itsBase == NONE ? ANY_BASE : sign == '-' ? itsBase : NONE;
            nodes[leaf + MAKES] = sign == '-' ? NONE : itsBase;
            nodeCount++;
            return nodeCount - 1;
        }

        /** Makes one NODE of the last item's, if that is of a kind, and of another one behind it. */
        private boolean joins(int kind, int node, int itsPlace) {
            int top = (itemCount - 1) * ITEM_SIZE;
            int whole = nodeCount * NODE_SIZE;
            if (whole + NODE_SIZE > nodes.length && nodes.length < MOST_ROOM) {
                nodes = Arrays.copyOf(nodes, nodes.length * 2);
            }
            if (itemCount <= bottom || items[top] != kind || items[top + 1] < 0 || node < 0
                || whole + NODE_SIZE > nodes.length) {
                return false;
            }
            int first = items[top + 1] * NODE_SIZE;
            int second = node * NODE_SIZE;
            int adds = nodes[first + ADDS];
            int least = Math.min(nodes[first + LEAST], adds + nodes[second + LEAST]);
            int most = Math.max(nodes[first + MOST], adds + nodes[second + MOST]);
            int asks = nodes[first + ASKS];
            int then = nodes[second + ASKS];
            boolean fits = asks == ANY_BASE || then == ANY_BASE || then == nodes[first + MAKES];
            boolean never = asks == NEVER || then == NEVER || !fits || most > MOST_APART || least < -MOST_APART
                || most - least > MOST_APART;
            nodes[whole + JOINED] = 1;
            nodes[whole + SIGN_OR_FIRST] = items[top + 1];
            nodes[whole + NUMBER_OR_SECOND] = node;
            nodes[whole + BASE_OR_DISTANCE] = itsPlace - items[top + 3];
            nodes[whole + ADDS] = adds + nodes[second + ADDS];
            nodes[whole + LEAST] = least;
            nodes[whole + MOST] = most;
            nodes[whole + ASKS] = never ? NEVER : asks == ANY_BASE ? then : asks;
            nodes[whole + MAKES] = nodes[(then == ANY_BASE ? first : second) + MAKES];
            items[top + 1] = nodeCount;
            nodeCount++;
            return true;
        }

        /** Whether TERMS can be added to the number and BASE in the fields without a fault. */
        private boolean canAdd(int node) {
            if (node < 0 || node >= nodeCount) {
                return false;
            }
            int its = node * NODE_SIZE;
            int asks = nodes[its + ASKS];
            return (asks == ANY_BASE || asks == base) && number + nodes[its + LEAST] >= -MOST_NUMBER
                && number + nodes[its + MOST] <= MOST_NUMBER;
        }

        private void addAll(int node) {
            if (node >= 0 && node < nodeCount) {
                int its = node * NODE_SIZE;
                number += nodes[its + ADDS];
                base = nodes[its + ASKS] == ANY_BASE ? base : nodes[its + MAKES];
            }
        }

        /** Adds TERMS to the sum; if that brings a fault, it is looked for. */
        private void sumUp(int node, int itsPlace) {
            if (kindAt(itemCount - 1) != VALUE || kindAt(itemCount - 2) != OPEN) {
                if (!joins(TERMS, node, itsPlace)) {
                    append(TERMS, node, NONE, itsPlace);
                }
                return;
            }
            int one = node;
            int its = itsPlace;
            int code = 0;
            itemCount--;
            number = items[itemCount * ITEM_SIZE + 1];
            base = items[itemCount * ITEM_SIZE + 2];
            for (int step = 0; step < nodeCount && !canAdd(one) && nodeAt(one, JOINED) != 0; step++) {
                int first = nodeAt(one, SIGN_OR_FIRST);
                if (canAdd(first)) {
                    addAll(first);
                    its = later(its, nodeAt(one, BASE_OR_DISTANCE));
                    one = nodeAt(one, NUMBER_OR_SECOND);
                } else {
                    one = first;
                }
            }
            if (canAdd(one)) {
                addAll(one);
            } else {
                code = join(nodeAt(one, SIGN_OR_FIRST), number, base, nodeAt(one, NUMBER_OR_SECOND),
                    nodeAt(one, BASE_OR_DISTANCE));
            }
            append(code == 0 ? VALUE : FAULTY, code == 0 ? number : code, base, its);
        }

        /** Multiplies and divides the PRODUCT by FACTORS; what these make of a number is remembered. */
        private void multiply(int node, int itsPlace) {
            if (kindAt(itemCount - 1) != VALUE || kindAt(itemCount - 2) < OPEN) {
                if (!joins(FACTORS, node, itsPlace)) {
                    append(FACTORS, node, NONE, itsPlace);
                }
                return;
            }
            itemCount--;
            number = items[itemCount * ITEM_SIZE + 1];
            base = items[itemCount * ITEM_SIZE + 2];
            int code = base == NONE ? 0 : FAULT_BASE;
            int its = itsPlace;
            int others = waiting.size();
            waiting.add(node);
            waiting.add(itsPlace);
            for (long step = 0; step < MOST_WALKED && code == 0 && waiting.size() > others; step++) {
                its = waiting.takeOut(waiting.size() - 1);
                int one = waiting.takeOut(waiting.size() - 1);
                if (one < 0) {
                    remember(slotOf(~one, its), ~one, its);
                } else if (nodeAt(one, JOINED) == 0) {
                    code = join(nodeAt(one, SIGN_OR_FIRST), number, base, nodeAt(one, NUMBER_OR_SECOND),
                        nodeAt(one, BASE_OR_DISTANCE));
                } else if (!recall(slotOf(one, number), one)) {
                    waiting.add(~one);
                    waiting.add(number);
                    waiting.add(nodeAt(one, NUMBER_OR_SECOND));
                    waiting.add(later(its, nodeAt(one, BASE_OR_DISTANCE)));
                    waiting.add(nodeAt(one, SIGN_OR_FIRST));
                    waiting.add(its);
                }
            }
            waiting.cutTo(others);
            append(code == 0 ? VALUE : FAULTY, code == 0 ? number : code, base, its);
        }

        /** Makes of the number in the fields what a NODE makes of it, if that is remembered. */
        private boolean recall(int slot, int node) {
            int at = slot < remembered.length ? remembered[slot] : 0;
            for (int step = 0; step < rememberedSize && at >= SLOTS && at + MEMORY_SIZE <= rememberedSize; step++) {
                if (remembered[at] == node && remembered[at + 1] == number) {
                    number = remembered[at + 2];
                    return true;
                }
                at = remembered[at + 3];
            }
            return false;
        }

        private void remember(int slot, int node, int ofNumber) {
            if (remembered.length == 0) {
                remembered = new int[2 * SLOTS];
                rememberedSize = SLOTS;
            }
            if (rememberedSize + MEMORY_SIZE > remembered.length && remembered.length < MOST_ROOM) {
                remembered = Arrays.copyOf(remembered, remembered.length * 2);
            }
            if (slot < SLOTS && rememberedSize + MEMORY_SIZE <= remembered.length) {
                remembered[rememberedSize] = node;
                remembered[rememberedSize + 1] = ofNumber;
                remembered[rememberedSize + 2] = number;
                remembered[rememberedSize + 3] = remembered[slot];
                remembered[slot] = rememberedSize;
                rememberedSize += MEMORY_SIZE;
            }
        }

        private static int slotOf(int node, int ofNumber) {
            int mixed = (node * 131 + ofNumber) * 0x9E3779B1;
            return mixed >>> 16 & SLOTS - 1;
        }
    }

    /** A FLAT line. */
    private static final class Flat {
        private Row row;
        private int expansion;
        private int part;
        private int word;
        private Name label;
        private int operands;
        private int expressions;
        private int told;
        private int offset;
        private boolean shortable;
        private int target;
        private boolean pooled;
        private int literal;
        // Which SYMBOLS its EXPRESSIONS have, and whether a NAME that is none.
        private long usedLow;
        private long usedHigh;
        private boolean unknown;
        private final int[] numbers = new int[MOST_EXPRESSIONS];
        private final int[] bases = new int[MOST_EXPRESSIONS];

        void begin(Row itsRow, int itsExpansion, int itsPart) {
            row = itsRow;
            expansion = itsExpansion;
            part = itsPart;
            word = itsRow.word;
            label = null;
            operands = 0;
            expressions = 0;
            told = 0;
            offset = 0;
            shortable = false;
            target = NONE;
            literal = NONE;
            Arrays.fill(numbers, 0);
            Arrays.fill(bases, NONE);
        }

        int number(int place) {
            return place >= 0 && place < MOST_EXPRESSIONS ? numbers[place] : 0;
        }

        int base(int place) {
            return place >= 0 && place < MOST_EXPRESSIONS ? bases[place] : NONE;
        }

        void become(int place, int number, int base) {
            if (place >= 0 && place < MOST_EXPRESSIONS) {
                numbers[place] = number;
                bases[place] = base;
            }
        }
    }

    /** From a source to FLAT lines (section 3); it keeps the fault that was met, here or later. */
    private static final class Expander {
        private final Reckoner reckoner = new Reckoner();
        private final Tokens tokens = reckoner.tokens;
        private final ArrayList<Row> rows = new ArrayList<Row>();
        private int rowCount;
        private final ArrayList<Flat> flats = new ArrayList<Flat>();
        private int flatCount;
        // The rows for which BODIES are being HANDLED, inside each other; the first one stands for the SOURCE.
        private final Row[] callers = new Row[MOST_BODIES + 1];
        private int depth;
        private int expansions;
        private int macros;
        private int part;
        private int expressions;
        // Where each argument of the last macro call begins and ends among all TOKENS.
        private final Codes arguments = new Codes();
        private int faultCode;
        private Row faultRow;
        private int faultLine;
        private long faultPlace;
        private final Row noRow = new Row();
        private final Flat noFlat = new Flat();

        int faultCode() {
            return faultCode;
        }

        int faultLine() {
            return faultLine;
        }

        long faultColumn() {
            return faultRow == null ? faultPlace : tokens.find(faultRow, faultPlace, true);
        }

        int flatCount() {
            return flatCount;
        }

        int expansionCount() {
            return expansions;
        }

        int macroCount() {
            return macros;
        }

        Flat flatAt(int at) {
            return at >= 0 && at < flatCount && at < flats.size() ? flats.get(at) : noFlat;
        }

        void writeFlat(int at, Codes to) {
            Row row = flatAt(at).row;
            to.cutTo(0);
            tokens.writeSome(row.start, row.count, tokens.orderPlace(row), to);
        }

        /** A fault at the TOKEN at a place of a row, all TOKENS being counted. */
        void fail(int code, Row row, long place) {
            faultCode = code;
            faultRow = row;
            faultLine = row.line;
            faultPlace = place;
        }

        /** A fault that is not of a row of TOKENS. */
        void failAt(int code, int line, long column) {
            faultCode = code;
            faultRow = null;
            faultLine = line;
            faultPlace = column;
        }

        /** Makes the FLAT lines of a lender's texts, with another text in place of one of them (or of none). */
        void expand(Codes[] lines, int count, int replaced, Codes other, Tokens lender) {
            tokens.restart();
            if (lender.mark(lines, count)) {
                tokens.borrow(lender);
            }
            rowCount = 0;
            flatCount = 0;
            depth = 0;
            expansions = 0;
            macros = 0;
            part = 0;
            noFlat.begin(noRow, 0, 0);
            failAt(0, NONE, 0);
            for (int i = 0; i < count && i < lines.length && faultCode == 0; i++) {
                Codes text = i == replaced ? other : lines[i];
                if (text != null) {
                    addLine(tokens.read(i == replaced ? text : tokens.lent(text)), i);
                }
            }
            tokens.unite();
            if (beginsBody(noRow, 0)) {
                noRow.end = rowCount;
            }
            for (int step = 0; step < MOST_STEPS && depth > 0 && faultCode == 0; step++) {
                Row caller = depth <= callers.length ? callers[depth - 1] : null;
                if (caller == null) {
                    return;
                }
                if (caller.next < caller.end) {
                    caller.next++;
                    handle(caller.next - 1, caller);
                } else if (caller.rounds > 0) {
                    beginRound(caller);
                } else {
                    depth--;
                }
            }
        }

        /** Makes a row of the TOKENS of a line that were read last. */
        private void addLine(int count, int line) {
            if (count < 0) {
                failAt(-count, line, tokens.illColumn());
                return;
            }
            Row row = addRow(tokens.size() - count, count, line);
            // A REMARK is left out at once: it is the last TOKEN and moves no COLUMN ahead of it.
            if (tokens.kindAt(row, row.count - 1) == REMARK) {
                row.count--;
            }
        }

        private Row addRow(int start, int count, int line) {
            Row row;
            if (rowCount < rows.size()) {
                row = rows.get(rowCount);
            } else {
                row = new Row();
                rows.add(row);
            }
            rowCount++;
            row.start = start;
            row.count = count;
            row.line = line;
            tokens.openHead(row);
            row.word = tokens.wordAt(row, tokens.orderPlace(row));
            return row;
        }

        private Row rowAt(int at) {
            return at >= 0 && at < rowCount && at < rows.size() ? rows.get(at) : noRow;
        }

        /** Begins with the SOURCE, or with a BODY that a row asks for, if there are not too many inside each other. */
        private boolean beginsBody(Row row, int order) {
            if (depth < 0 || depth >= callers.length) {
                fail(FAULT_DEEP, row, order);
                return false;
            }
            callers[depth] = row;
            depth++;
            row.beginBody(order);
            return true;
        }

        /** Begins a new EXPANSION: makes the rows of a BODY ready, to be HANDLED next. */
        private void beginRound(Row caller) {
            caller.rounds--;
            if (expansions >= MOST_EXPANSIONS) {
                fail(FAULT_DEEP, caller, caller.order);
                return;
            }
            expansions++;
            caller.expansion = expansions;
            caller.next = rowCount;
            for (int i = caller.from; i < caller.to && faultCode == 0; i++) {
                makeReady(rowAt(i), caller);
            }
            caller.end = rowCount;
        }

        private void makeReady(Row row, Row caller) {
            int start = tokens.size();
            boolean changes = false;
            for (int at = 0; at < row.count; at++) {
                int token = tokens.tokenAt(row, at);
                int worth = token >> 3;
                if ((token & 7) == PARAMETER && caller.called) {
                    if (worth < 1 || 2 * worth > arguments.size()) {
                        fail(FAULT_ARGUMENT, row, tokens.placeOf(row, at));
                        return;
                    }
                    tokens.addAgain(arguments.at(2 * worth - 2), arguments.at(2 * worth - 1));
                    changes = true;
                } else if ((token & 7) == LOCAL) {
                    Codes text = tokens.localText(worth, caller.expansion);
                    tokens.add(tokens.nameOf(text, 0, text.size()) * 8 + NAME);
                    changes = true;
                } else {
                    tokens.add(token);
                }
            }
            if (changes) {
                addRow(start, tokens.size() - start, row.line);
            } else {
                tokens.cutTo(start);
                addRow(row.start, row.count, row.line);
            }
        }

        private void handle(int at, Row caller) {
            Row row = rowAt(at);
            if (caller.expansion == 0) {
                tokens.nameLocals(row, 0);
            }
            int parameter = tokens.firstOfKind(row, PARAMETER);
            if (parameter != NONE) {
                fail(FAULT_ARGUMENT, row, tokens.placeOf(row, parameter));
                return;
            }
            int order = tokens.orderPlace(row);
            if (order >= row.count) {
                if (order > 0) {
                    addFlat(row, order, caller.expansion);
                }
                return;
            }
            Name name = tokens.nameAt(row, order);
            if (tokens.kindAt(row, order) != NAME) {
                fail(FAULT_LINE, row, order);
            } else if (row.word == 0 && name.bodyFrom == NONE) {
                fail(FAULT_ORDER, row, order);
            } else if (!labelStandsRight(row, order)) {
                return;
            } else if (row.word == 0) {
                callMacro(row, order, name, caller.expansion);
            } else if (expressionsOf(row.word) > 0 ? !expressionsAreRight(row, order) : !nameIsRight(row, order)) {
                return;
            } else {
                boolean had = hadToBeKnown(row.word);
                boolean known = (had || row.word == LET) && reckoner.reckon(row, order + 1, row.count, true, 0, NONE);
                if (had && !isWithinBounds(row, order, known)) {
                    return;
                }
                if (row.word <= WEAK) {
                    addOrder(row, order, caller.expansion, known);
                } else {
                    openBlock(at, order, caller);
                }
            }
        }

        private boolean labelStandsRight(Row row, int order) {
            boolean must = row.word == LET || row.word == MACRO;
            boolean may = must || row.word <= STOP;
            if (must && order == 0) {
                fail(FAULT_LINE, row, order);
                return false;
            }
            if (!may && order > 0) {
                fail(FAULT_LINE, row, 0);
                return false;
            }
            return true;
        }

        /** How many EXPRESSIONS may stand behind a word. */
        private static int expressionsOf(int word) {
            switch (word) {
                case BYTE:
                case WORD:
                    return MOST_EXPRESSIONS;
                case STOP:
                case SHARE:
                case WANT:
                case WEAK:
                case MACRO:
                case END:
                case ELSE:
                    return 0;
                default:
                    return 1;
            }
        }

        /** Looks at what stands behind a word that asks for no EXPRESSION: one NAME, or nothing. */
        private boolean nameIsRight(Row row, int order) {
            int place = order + 1;
            boolean wantsName = row.word == SHARE || row.word == WANT || row.word == WEAK;
            boolean hasName = wantsName && tokens.kindAt(row, place) == NAME;
            expressions = 0;
            if (hasName) {
                place++;
            }
            if (hasName != wantsName || place < row.count) {
                fail(FAULT_LINE, row, place);
                return false;
            }
            return true;
        }

        private boolean expressionsAreRight(Row row, int order) {
            int most = expressionsOf(row.word);
            int at = row.word == LOAD && tokens.isSign(row, order + 1, '=') ? order + 2 : order + 1;
            for (expressions = 1; expressions <= most; expressions++) {
                at = reckoner.parse(row, at);
                if (at == NONE) {
                    fail(reckoner.missCode(), row, reckoner.missPlace());
                    return false;
                }
                if (at >= row.count) {
                    return true;
                }
                if (expressions == most || !tokens.isSign(row, at, ',')) {
                    break;
                }
                at++;
            }
            fail(FAULT_LINE, row, tokens.placeOf(row, at));
            return false;
        }

        /** Makes the FLAT line of a row with one of the words byte to weak. */
        private void addOrder(Row row, int order, int expansion, boolean known) {
            if (row.word == PART) {
                part = reckoner.number();
            }
            Flat flat = addFlat(row, order, expansion);
            if (flat == null) {
                return;
            }
            flat.expressions = expressions;
            if (hadToBeKnown(row.word)) {
                flat.told = reckoner.number();
            }
            // Just the first let of a NAME can make it KNOWN.
            if (row.word == LET && flat.label != null && flat.label.known == NOT_LET) {
                flat.label.known = known ? LET_KNOWN : LET_UNKNOWN;
                flat.label.told = known ? reckoner.number() : 0;
            }
        }

        private static boolean hadToBeKnown(int word) {
            return word == ROOM || word == PART || word == FROM || word == ALIGN || word == REPEAT || word == IF;
        }

        /** Whether what had to be KNOWN could be reckoned and is as the word asks. */
        private boolean isWithinBounds(Row row, int order, boolean known) {
            if (!known) {
                fail(reckoner.missCode(), row, reckoner.missPlace());
                return false;
            }
            if (!isWithin(row.word, reckoner.number())) {
                fail(FAULT_RANGE, row, order + 1);
                return false;
            }
            return true;
        }

        private static boolean isWithin(int word, int number) {
            switch (word) {
                case ROOM:
                    return number >= 0 && number <= 40;
                case PART:
                    return number >= 0 && number < PARTS;
                case FROM:
                    return number >= 0 && number <= 500;
                case ALIGN:
                    return number >= 1 && number <= 16 && (number & number - 1) == 0;
                case REPEAT:
                    return number >= 0 && number <= 5;
                default:
                    return true;
            }
        }

        /** Puts a FLAT line behind the others; answers null with a fault. */
        private Flat addFlat(Row row, int order, int expansion) {
            if (flatCount >= MOST_LINES) {
                fail(FAULT_LONG, row, 0);
                return null;
            }
            Flat flat;
            if (flatCount < flats.size()) {
                flat = flats.get(flatCount);
            } else {
                flat = new Flat();
                flats.add(flat);
            }
            flatCount++;
            flat.begin(row, expansion, part);
            flat.pooled = row.word == LOAD && tokens.isSign(row, order + 1, '=');
            flat.operands = flat.pooled ? order + 2 : order + 1;
            if (order > 0) {
                flat.label = tokens.nameAt(row, 0);
            }
            return flat;
        }

        private void callMacro(Row row, int order, Name name, int expansion) {
            if (!argumentsAreRight(row, order + 1)) {
                return;
            }
            if (order > 0) {
                Row label = addRow(row.start, order, row.line);
                if (addFlat(label, order, expansion) == null) {
                    return;
                }
            }
            if (beginsBody(row, order)) {
                row.from = name.bodyFrom;
                row.to = name.bodyTo;
                row.rounds = 1;
                row.called = true;
                // A long argument becomes one PIECE, which then stands for each PARAMETER.
                for (int i = 0; i < arguments.size(); i += 2) {
                    int size = arguments.at(i + 1) - arguments.at(i);
                    if (tokens.isWorthSharing(arguments.at(i), size)) {
                        arguments.set(i, tokens.share(arguments.at(i), size));
                        arguments.set(i + 1, arguments.at(i) + 1);
                    }
                }
            }
        }

        private boolean argumentsAreRight(Row row, int from) {
            int begin = from;
            arguments.cutTo(0);
            for (int at = from; at <= row.count && row.count > from; at++) {
                boolean ends = at == row.count || tokens.isSign(row, at, ',');
                if (ends ? at == begin : arguments.size() >= 2 * MOST_ARGUMENTS) {
                    fail(FAULT_LINE, row, tokens.placeOf(row, at));
                    return false;
                }
                if (ends) {
                    arguments.add(row.start + begin);
                    arguments.add(row.start + at);
                    begin = at + 1;
                }
            }
            return true;
        }

        private void openBlock(int at, int order, Row caller) {
            Row row = rowAt(at);
            int end = row.word == END || row.word == ELSE ? NONE : endOf(at + 1, caller.end);
            if (end == NONE) {
                fail(FAULT_BLOCK, row, order);
                return;
            }
            caller.next = end + 1;
            if (row.word == MACRO) {
                defineMacro(row, at + 1, end);
                return;
            }
            int number = reckoner.number();
            if (row.word == REPEAT && number == 0 || !beginsBody(row, order)) {
                return;
            }
            if (row.word == REPEAT) {
                row.from = at + 1;
                row.to = end;
                row.rounds = number;
                return;
            }
            int parting = elseOf(at + 1, end);
            if (number != 0) {
                row.next = at + 1;
                row.end = parting == NONE ? end : parting;
            } else {
                row.next = parting == NONE ? end : parting + 1;
                row.end = end;
            }
            row.expansion = caller.expansion;
        }

        private static boolean opens(int word) {
            return word == MACRO || word == REPEAT || word == IF;
        }

        /** The row with the end of a BLOCK, NONE where none closes it. */
        private int endOf(int from, int to) {
            int open = 1;
            for (int i = from; i < to; i++) {
                int word = rowAt(i).word;
                if (opens(word)) {
                    open++;
                } else if (word == END) {
                    open--;
                    if (open == 0) {
                        return i;
                    }
                }
            }
            return NONE;
        }

        /** The row with the else that parts an if, NONE without one. */
        private int elseOf(int from, int to) {
            int open = 0;
            for (int i = from; i < to; i++) {
                int word = rowAt(i).word;
                if (opens(word)) {
                    open++;
                } else if (word == END) {
                    open--;
                } else if (word == ELSE && open == 0) {
                    return i;
                }
            }
            return NONE;
        }

        private void defineMacro(Row row, int from, int to) {
            Name name = tokens.nameAt(row, 0);
            if (name.bodyFrom != NONE) {
                fail(FAULT_TWICE, row, 0);
                return;
            }
            for (int i = from; i < to; i++) {
                if (rowAt(i).word == MACRO) {
                    fail(FAULT_BLOCK, rowAt(i), tokens.orderPlace(rowAt(i)));
                    return;
                }
            }
            name.bodyFrom = from;
            name.bodyTo = to;
            macros++;
        }
    }

    /** START and bytes of each PART, and all MOVES. */
    private static final class Memory {
        private final int[] start = new int[PARTS];
        private final int[] size = new int[PARTS];
        private final int[] cells = new int[PARTS * MOST_LENGTH];
        private final Codes moveAddresses = new Codes();
        private final Codes moveKinds = new Codes();
        private final Codes moveBases = new Codes();
        private final Codes moveNumbers = new Codes();

        void wipe() {
            Arrays.fill(start, 0);
            Arrays.fill(size, 0);
            moveAddresses.cutTo(0);
            moveKinds.cutTo(0);
            moveBases.cutTo(0);
            moveNumbers.cutTo(0);
        }

        void place(int part, int itsStart, int itsSize) {
            if (part >= 0 && part < PARTS) {
                start[part] = itsStart;
                size[part] = itsSize;
            }
        }

        int startOf(int part) {
            return part >= 0 && part < PARTS ? start[part] : 0;
        }

        int sizeOf(int part) {
            return part >= 0 && part < PARTS ? size[part] : 0;
        }

        int endOf(int part) {
            return startOf(part) + sizeOf(part);
        }

        void write(int part, int offset, int number) {
            if (part >= 0 && part < PARTS && offset >= 0 && offset < MOST_LENGTH) {
                cells[part * MOST_LENGTH + offset] = number & 255;
            }
        }

        void writeWord(int part, int offset, int number) {
            write(part, offset, number);
            write(part, offset + 1, number >> 8);
        }

        /** The byte at an address, NONE without one. */
        int cellAt(int address) {
            for (int part = 0; part < PARTS; part++) {
                int offset = address - start[part];
                if (offset >= 0 && offset < size[part] && offset < MOST_LENGTH) {
                    return cells[part * MOST_LENGTH + offset];
                }
            }
            return NONE;
        }

        /** Puts a MOVE in at its place by addresses. */
        void addMove(int address, int kind, int base, int number) {
            int at = moveAddresses.size();
            while (at > 0 && moveAddresses.at(at - 1) > address) {
                at--;
            }
            moveAddresses.insert(at, address);
            moveKinds.insert(at, kind);
            moveBases.insert(at, base);
            moveNumbers.insert(at, number);
        }

        int moveCount() {
            return moveAddresses.size();
        }

        int factOfMove(int at, int what) {
            switch (what) {
                case 0:
                    return moveAddresses.at(at);
                case 1:
                    return moveKinds.at(at);
                case 2:
                    return moveBases.at(at);
                default:
                    return moveNumbers.at(at);
            }
        }

        int movesWith(int base) {
            int found = 0;
            for (int i = 0; i < moveCount(); i++) {
                if (moveBases.at(i) == base) {
                    found++;
                }
            }
            return found;
        }

        /** The least START of PARTS with bytes, 0 without. */
        int least() {
            int least = NONE;
            for (int part = 0; part < PARTS; part++) {
                if (size[part] > 0 && (least == NONE || start[part] < least)) {
                    least = start[part];
                }
            }
            return Math.max(least, 0);
        }

        /** The greatest end of PARTS with bytes, 0 without. */
        int greatest() {
            int greatest = 0;
            for (int part = 0; part < PARTS; part++) {
                if (size[part] > 0) {
                    greatest = Math.max(greatest, start[part] + size[part]);
                }
            }
            return greatest;
        }

        int byteCount() {
            int count = 0;
            for (int part = 0; part < PARTS; part++) {
                count += size[part];
            }
            return count;
        }

        /** Takes over the bytes of another one; its MOVES are not asked for later. */
        void become(Memory other) {
            System.arraycopy(other.start, 0, start, 0, PARTS);
            System.arraycopy(other.size, 0, size, 0, PARTS);
            System.arraycopy(other.cells, 0, cells, 0, cells.length);
        }

        /** How many addresses DIFFER (0), the first (1) and the last of them (2). */
        int difference(Memory other, int what) {
            int count = 0;
            int first = NONE;
            int last = NONE;
            int end = Math.max(greatest(), other.greatest());
            for (int address = 0; address < end; address++) {
                if (cellAt(address) != other.cellAt(address)) {
                    count++;
                    last = address;
                    first = first == NONE ? address : first;
                }
            }
            return what == 0 ? count : what == 1 ? first : last;
        }

        boolean same(Memory other) {
            if (difference(other, 0) != 0 || moveCount() != other.moveCount()) {
                return false;
            }
            for (int part = 0; part < PARTS; part++) {
                if (start[part] != other.start[part] || size[part] != other.size[part]) {
                    return false;
                }
            }
            for (int i = 0; i < moveCount(); i++) {
                for (int what = 0; what <= 3; what++) {
                    if (factOfMove(i, what) != other.factOfMove(i, what)) {
                        return false;
                    }
                }
            }
            return true;
        }
    }

    /** One assembly: what sections 4 to 7 make of FLAT lines. */
    private static final class Assembly {
        private final Expander expander = new Expander();
        private final Memory memory = new Memory();
        private final int[] sizes = new int[MOST_LINES];
        private final int[] otherSizes = new int[MOST_LINES];
        private final Name[] symbols = new Name[MOST_LINES];
        private final Name nobody = new Name();
        private int symbolCount;
        // The SYMBOLS that have no VALUE yet.
        private long waitingLow;
        private long waitingHigh;
        private final Piece found = new Piece();
        private int passes;
        private final int[] code = new int[PARTS];
        private final int[] align = new int[PARTS];
        private final int[] origin = new int[PARTS];
        private final int[] literals = new int[PARTS];
        private final Codes literalParts = new Codes();
        private final Codes literalPlaces = new Codes();
        private final Codes literalNumbers = new Codes();
        private final Codes literalBases = new Codes();

        /** Goes on behind section 3, if that brought no fault. */
        void finish() {
            memory.wipe();
            symbolCount = 0;
            passes = 0;
            Arrays.fill(literals, 0);
            literalParts.cutTo(0);
            literalPlaces.cutTo(0);
            literalNumbers.cutTo(0);
            literalBases.cutTo(0);
            if (stands()) {
                defineSymbols();
            }
            if (stands()) {
                gatherSymbols();
                sortSymbols();
                settleUses();
                settleJumps();
                settleSymbols();
                reckonEquates();
            }
            if (stands()) {
                askValues();
            }
            if (stands()) {
                placeParts();
            }
            if (stands()) {
                writeBytes();
            }
        }

        private boolean stands() {
            return expander.faultCode() == 0;
        }

        private int flatCount() {
            return Math.min(expander.flatCount(), MOST_LINES);
        }

        // ---- section 4

        private void defineSymbols() {
            for (int i = 0; i < flatCount() && stands(); i++) {
                Flat flat = expander.flatAt(i);
                if (flat.label != null) {
                    define(flat.label, flat.word == LET ? EQUATE : LABEL, i, 0);
                }
                Name named = expander.tokens.nameAt(flat.row, flat.operands);
                if (flat.word == WANT) {
                    define(named, WANTED, i, flat.operands);
                } else if (flat.word == SHARE) {
                    named.shared = true;
                } else if (flat.word == WEAK && named.weakFlat == NONE) {
                    named.weakFlat = i;
                }
            }
        }

        private void define(Name name, int kind, int flat, int place) {
            if (name.kind != 0) {
                expander.fail(FAULT_TWICE, expander.flatAt(flat).row, place);
                return;
            }
            name.kind = kind;
            name.flat = flat;
        }

        private void gatherSymbols() {
            for (int i = 0; i < flatCount(); i++) {
                Flat flat = expander.flatAt(i);
                Name named = expander.tokens.nameAt(flat.row, flat.operands);
                if (flat.label != null) {
                    addSymbol(flat.label);
                } else if (flat.word == WANT) {
                    addSymbol(named);
                } else if (flat.word == WEAK && named.kind == 0) {
                    named.kind = WEAK_ALONE;
                    named.flat = i;
                    addSymbol(named);
                }
            }
        }

        private void addSymbol(Name name) {
            if (symbolCount < MOST_LINES) {
                symbols[symbolCount] = name;
                symbolCount++;
            }
        }

        private void sortSymbols() {
            for (int i = 1; i < symbolCount; i++) {
                Name name = symbolAt(i);
                int at = i;
                while (at > 0 && expander.tokens.isAhead(name, symbolAt(at - 1))) {
                    symbols[at] = symbolAt(at - 1);
                    at--;
                }
                symbols[at] = name;
            }
        }

        /** Finds which SYMBOLS stand in each PIECE (these stand in ones of higher numbers) and each FLAT line. */
        private void settleUses() {
            for (int i = 0; i < symbolCount; i++) {
                symbolAt(i).symbol = i;
            }
            Tokens tokens = expander.tokens;
            for (int i = 0; i < tokens.pieceCount(); i++) {
                Piece piece = tokens.pieceAt(i);
                findUses(piece.from, piece.from + piece.size);
                piece.usedLow = found.usedLow;
                piece.usedHigh = found.usedHigh;
                piece.unknown = found.unknown;
            }
            for (int i = 0; i < flatCount(); i++) {
                Flat flat = expander.flatAt(i);
                findUses(flat.row.start + flat.operands, flat.row.start + flat.row.count);
                flat.usedLow = found.usedLow;
                flat.usedHigh = found.usedHigh;
                flat.unknown = found.unknown;
            }
        }

        private void findUses(int from, int to) {
            Tokens tokens = expander.tokens;
            found.usedLow = 0;
            found.usedHigh = 0;
            found.unknown = false;
            for (int at = from; at < to; at++) {
                int token = tokens.all.at(at);
                if ((token & 7) == PIECE) {
                    Piece piece = tokens.pieceAt(token >> 3);
                    found.usedLow |= piece.usedLow;
                    found.usedHigh |= piece.usedHigh;
                    found.unknown = found.unknown || piece.unknown;
                } else if ((token & 7) == NAME) {
                    int symbol = tokens.named(token >> 3).symbol;
                    found.usedLow |= lowBit(symbol);
                    found.usedHigh |= highBit(symbol);
                    found.unknown = found.unknown || symbol == NONE;
                }
            }
        }

        private static long lowBit(int symbol) {
            return symbol >= 0 && symbol < 64 ? 1L << symbol : 0;
        }

        private static long highBit(int symbol) {
            return symbol >= 64 && symbol < 128 ? 1L << symbol - 64 : 0;
        }

        /** What a FLAT line takes, a jump as if it were SHORT. */
        private static int sizeOf(Flat flat) {
            switch (flat.word) {
                case BYTE:
                    return flat.expressions;
                case WORD:
                    return 2 * flat.expressions;
                case ROOM:
                    return flat.told;
                case JUMP:
                    return 2;
                case CALL:
                    return 3;
                case LOAD:
                    return flat.pooled ? 3 : 2;
                case STOP:
                    return 1;
                default:
                    return 0;
            }
        }

        Name symbolAt(int at) {
            Name name = at >= 0 && at < symbolCount && at < MOST_LINES ? symbols[at] : null;
            return name == null ? nobody : name;
        }

        private int sizeAt(int[] someSizes, int at) {
            return at >= 0 && at < someSizes.length ? someSizes[at] : 0;
        }

        private void settleJumps() {
            for (int i = 0; i < flatCount(); i++) {
                Flat flat = expander.flatAt(i);
                sizes[i] = sizeOf(flat);
                if (flat.word == JUMP) {
                    Name name = expander.tokens.nameAt(flat.row, flat.operands);
                    flat.target = name.flat;
                    flat.shortable = flat.row.count == flat.operands + 1 && name.kind == LABEL
                        && expander.flatAt(name.flat).part == flat.part;
                    sizes[i] = flat.shortable ? SIZE_SHORT : SIZE_LONG;
                }
            }
            boolean changes = true;
            while (changes && passes <= MOST_LINES) {
                passes++;
                changes = lengthenJumps();
            }
            Arrays.fill(code, 0);
            for (int i = 0; i < flatCount(); i++) {
                Flat flat = expander.flatAt(i);
                flat.offset = code[flat.part & 3];
                code[flat.part & 3] += sizes[i];
            }
        }

        /** One PASS; answers whether it changed anything. */
        private boolean lengthenJumps() {
            boolean changes = false;
            System.arraycopy(sizes, 0, otherSizes, 0, MOST_LINES);
            for (int i = 0; i < flatCount(); i++) {
                if (expander.flatAt(i).shortable && otherSizes[i] == SIZE_SHORT && !reaches(otherSizes, i)) {
                    sizes[i] = SIZE_LONG;
                    changes = true;
                }
            }
            return changes;
        }

        private boolean reaches(int[] someSizes, int at) {
            int reach = reachBy(someSizes, at);
            return reach >= LEAST_REACH && reach <= MOST_REACH;
        }

        /** REACH of a SHORTABLE jump as if it were SHORT, all other FLAT lines having such SIZES. */
        private int reachBy(int[] someSizes, int at) {
            Flat jump = expander.flatAt(at);
            boolean ahead = jump.target > at;
            int from = ahead ? at + 1 : jump.target;
            int to = ahead ? jump.target : at;
            int between = 0;
            for (int i = from; i < to; i++) {
                if (expander.flatAt(i).part == jump.part) {
                    between += sizeAt(someSizes, i);
                }
            }
            return ahead ? between : -between - SIZE_SHORT;
        }

        int reachNow(int at) {
            return reachBy(sizes, at);
        }

        // ---- section 5

        private void settleSymbols() {
            waitingLow = 0;
            waitingHigh = 0;
            for (int i = 0; i < symbolCount; i++) {
                Name name = symbolAt(i);
                Flat flat = expander.flatAt(name.flat);
                if (name.kind == LABEL) {
                    name.become(flat.offset, flat.part);
                } else if (name.kind == WANTED) {
                    name.become(0, WANTED_BASE + i);
                } else if (name.kind == WEAK_ALONE) {
                    name.become(0, NONE);
                } else {
                    waitingLow |= lowBit(i);
                    waitingHigh |= highBit(i);
                }
            }
        }

        private void reckonEquates() {
            Reckoner reckoner = expander.reckoner;
            for (int round = 0; round <= MOST_LINES && stands(); round++) {
                int brought = 0;
                Flat left = null;
                for (int i = 0; i < flatCount() && stands(); i++) {
                    Flat flat = expander.flatAt(i);
                    if (flat.word != LET || flat.label == null || flat.label.ready) {
                        continue;
                    }
                    if (!waits(flat.usedLow, flat.usedHigh, flat.unknown)) {
                        Row row = flat.row;
                        takeValue(flat, 0,
                            reckoner.reckon(row, flat.operands, row.count, false, flat.offset, flat.part));
                        flat.label.become(flat.number(0), flat.base(0));
                        waitingLow &= ~lowBit(flat.label.symbol);
                        waitingHigh &= ~highBit(flat.label.symbol);
                        brought++;
                    } else if (left == null) {
                        left = flat;
                    }
                }
                if (left == null) {
                    return;
                }
                if (brought == 0) {
                    failWaiting(left.row, left.operands);
                }
            }
        }

        private boolean waits(long low, long high, boolean unknown) {
            return unknown || (low & waitingLow) != 0 || (high & waitingHigh) != 0;
        }

        /** The first NAME from a place on that has no VALUE yet is a fault. */
        private void failWaiting(Row row, int operands) {
            Tokens tokens = expander.tokens;
            long place = tokens.placeOf(row, operands);
            int at = row.start + operands;
            int end = row.start + row.count;
            for (long step = 0; step < MOST_WALKED && at < end; step++) {
                int token = tokens.all.at(at);
                Piece piece = (token & 7) == PIECE ? tokens.pieceAt(token >> 3) : null;
                if (piece != null && waits(piece.usedLow, piece.usedHigh, piece.unknown)) {
                    at = piece.from;
                    end = at + piece.size;
                    continue;
                }
                if ((token & 7) == NAME && !tokens.named(token >> 3).ready) {
                    boolean known = tokens.named(token >> 3).kind != 0;
                    expander.fail(known ? FAULT_ROUND : FAULT_UNKNOWN, row, place);
                    return;
                }
                place = Math.min(place + (piece == null ? 1 : piece.tokens), MOST_COUNTED);
                at++;
            }
        }

        /** Takes the VALUE that was reckoned last for a FLAT line, or its fault. */
        private void takeValue(Flat flat, int which, boolean stands) {
            Reckoner reckoner = expander.reckoner;
            if (stands) {
                flat.become(which, reckoner.number(), reckoner.base());
            } else {
                expander.fail(reckoner.missCode(), flat.row, reckoner.missPlace());
            }
        }

        // ---- section 6

        private void askValues() {
            Reckoner reckoner = expander.reckoner;
            for (int i = 0; i < flatCount() && stands(); i++) {
                Flat flat = expander.flatAt(i);
                if (flat.word == SHARE) {
                    int kind = expander.tokens.nameAt(flat.row, flat.operands).kind;
                    if (kind != LABEL && kind != EQUATE) {
                        expander.fail(FAULT_UNKNOWN, flat.row, flat.operands);
                    }
                }
                int place = flat.operands;
                int asked = isAsked(flat.word) ? flat.expressions : 0;
                for (int which = 0; which < asked && stands(); which++) {
                    int behind = reckoner.parse(flat.row, place);
                    takeValue(flat, which,
                        reckoner.reckon(flat.row, place, behind, false, flat.offset, flat.part));
                    int fault = stands() ? askedOf(flat, which) : 0;
                    if (fault != 0) {
                        expander.fail(fault, flat.row, expander.tokens.placeOf(flat.row, place));
                    }
                    place = behind + 1;
                }
                if (flat.pooled && stands()) {
                    poolLiteral(flat);
                }
            }
        }

        private static boolean isAsked(int word) {
            return word == BYTE || word == WORD || word == JUMP || word == CALL || word == LOAD;
        }

        /** The code of the fault that a VALUE is in a FLAT line, 0 where it may stand there. */
        private static int askedOf(Flat flat, int which) {
            int number = flat.number(which);
            int base = flat.base(which);
            if (flat.word == BYTE || flat.word == LOAD && !flat.pooled) {
                if (base != NONE) {
                    return FAULT_BASE;
                }
                return number < -128 || number > 255 ? FAULT_RANGE : 0;
            }
            int least = flat.word == JUMP || flat.word == CALL ? 0 : -32768;
            return base == NONE && (number < least || number > MOST_NUMBER) ? FAULT_RANGE : 0;
        }

        private void poolLiteral(Flat flat) {
            int number = flat.number(0);
            int base = flat.base(0);
            for (int i = 0; i < literalParts.size(); i++) {
                if (literalParts.at(i) == flat.part && literalNumbers.at(i) == number && literalBases.at(i) == base) {
                    flat.literal = i;
                    return;
                }
            }
            flat.literal = literalParts.size();
            literalParts.add(flat.part);
            literalPlaces.add(literals[flat.part & 3]);
            literalNumbers.add(number);
            literalBases.add(base);
            literals[flat.part & 3]++;
        }

        // ---- section 7

        private void placeParts() {
            Arrays.fill(align, 1);
            Arrays.fill(origin, NONE);
            for (int i = 0; i < flatCount(); i++) {
                Flat flat = expander.flatAt(i);
                if (flat.word == ALIGN) {
                    align[flat.part & 3] = Math.max(align[flat.part & 3], flat.told);
                } else if (flat.word == FROM) {
                    origin[flat.part & 3] = flat.told;
                }
            }
            int end = 0;
            for (int part = 0; part < PARTS; part++) {
                int length = code[part] + 2 * literals[part];
                if (length > MOST_LENGTH) {
                    expander.failAt(FAULT_SPACE, NONE, part);
                    return;
                }
                int start = origin[part] != NONE ? origin[part] : roundUp(end, align[part]);
                memory.place(part, start, length);
                end = start + length;
            }
            for (int part = 1; part < PARTS; part++) {
                for (int other = 0; other < part && stands(); other++) {
                    if (haveAddressInCommon(part, other)) {
                        expander.failAt(FAULT_SPACE, NONE, part);
                    }
                }
            }
        }

        private static int roundUp(int number, int step) {
            return step > 0 ? (number + step - 1) / step * step : number;
        }

        private boolean haveAddressInCommon(int part, int other) {
            return memory.sizeOf(part) > 0 && memory.sizeOf(other) > 0
                && memory.startOf(part) < memory.endOf(other) && memory.startOf(other) < memory.endOf(part);
        }

        private void writeBytes() {
            for (int i = 0; i < flatCount(); i++) {
                writeFlatLine(expander.flatAt(i), i);
            }
            for (int i = 0; i < literalParts.size(); i++) {
                writeValue(literalParts.at(i), literalOffset(i), literalNumbers.at(i), literalBases.at(i));
            }
        }

        private int literalOffset(int literal) {
            return code[literalParts.at(literal) & 3] + 2 * literalPlaces.at(literal);
        }

        private void writeFlatLine(Flat flat, int at) {
            int part = flat.part;
            int offset = flat.offset;
            switch (flat.word) {
                case BYTE:
                    for (int i = 0; i < flat.expressions; i++) {
                        memory.write(part, offset + i, flat.number(i));
                    }
                    break;
                case WORD:
                    for (int i = 0; i < flat.expressions; i++) {
                        writeValue(part, offset + 2 * i, flat.number(i), flat.base(i));
                    }
                    break;
                case ROOM:
                case STOP:
                    for (int i = 0; i < sizes[at]; i++) {
                        memory.write(part, offset + i, 0);
                    }
                    break;
                case JUMP:
                    if (isShort(at)) {
                        memory.write(part, offset, CODE_SHORT);
                        memory.write(part, offset + 1, reachBy(sizes, at));
                    } else {
                        memory.write(part, offset, CODE_LONG);
                        writeValue(part, offset + 1, flat.number(0), flat.base(0));
                    }
                    break;
                case CALL:
                    writeCall(flat);
                    break;
                case LOAD:
                    writeLoad(flat);
                    break;
                default:
                    break;
            }
        }

        private void writeCall(Flat flat) {
            int address = memory.startOf(flat.part) + flat.offset;
            int distance = addressMeant(flat.number(0), flat.base(0)) - (address + 3);
            memory.write(flat.part, flat.offset, CODE_CALL);
            memory.writeWord(flat.part, flat.offset + 1, distance);
            if (flat.base(0) != flat.part) {
                memory.addMove(address + 1, KIND_OF_CALL, flat.base(0), flat.number(0));
            }
        }

        private void writeLoad(Flat flat) {
            if (!flat.pooled) {
                memory.write(flat.part, flat.offset, CODE_LOAD);
                memory.write(flat.part, flat.offset + 1, flat.number(0));
                return;
            }
            int start = memory.startOf(flat.part);
            int offset = literalOffset(flat.literal);
            memory.write(flat.part, flat.offset, CODE_LOAD_LITERAL);
            memory.writeWord(flat.part, flat.offset + 1, start + offset);
            memory.addMove(start + flat.offset + 1, KIND_OF_WORD, flat.part, offset);
        }

        private int addressMeant(int number, int base) {
            return base >= 0 && base < PARTS ? memory.startOf(base) + number : number;
        }

        /** Writes the WORD of a VALUE. */
        private void writeValue(int part, int offset, int number, int base) {
            memory.writeWord(part, offset, addressMeant(number, base));
            if (base != NONE) {
                int kind = base < PARTS ? KIND_OF_WORD : KIND_OF_WANTED;
                memory.addMove(memory.startOf(part) + offset, kind, base, number);
            }
        }

        private boolean isShort(int at) {
            return expander.flatAt(at).word == JUMP && sizeAt(sizes, at) == SIZE_SHORT;
        }

        // ---- what is asked of it

        int symbolCount() {
            return symbolCount;
        }

        void writeSymbol(int at, Codes to) {
            to.cutTo(0);
            expander.tokens.writeName(symbolAt(at), to);
        }

        /** The place of the SYMBOL of that NAME, NONE without one. */
        int symbolNamed(Codes text) {
            for (int i = 0; i < symbolCount; i++) {
                if (expander.tokens.isNamed(symbolAt(i), text)) {
                    return i;
                }
            }
            return NONE;
        }

        int factOfFlat(int at, int what) {
            Flat flat = expander.flatAt(at);
            switch (what) {
                case 0:
                    return flat.row.line;
                case 1:
                    return flat.expansion;
                case 2:
                    return flat.word;
                case 3:
                    return flat.part;
                case 4:
                    return flat.offset;
                case 5:
                    return sizeAt(sizes, at);
                case 6:
                    return memory.startOf(flat.part) + flat.offset;
                case 7:
                    return flat.word != JUMP ? 0 : isShort(at) ? 1 : 2;
                case 8:
                    return flat.shortable ? 1 : 0;
                case 9:
                    return clipped(expander.tokens.placeOf(flat.row, flat.row.count));
                case 10:
                    return flat.number(0);
                default:
                    return flat.base(0);
            }
        }

        /** Writes a row of the listing. */
        void writeListing(int at, Codes to) {
            int address = factOfFlat(at, 6);
            int size = sizeAt(sizes, at);
            to.cutTo(0);
            to.addHex(address, 4);
            to.add(' ');
            for (int i = 0; i < size && i < LISTED_BYTES; i++) {
                to.addHex(memory.cellAt(address + i), 2);
            }
            to.addAll(size > LISTED_BYTES ? "+  " : "  ");
            Row row = expander.flatAt(at).row;
            expander.tokens.writeSome(row.start, row.count, expander.tokens.orderPlace(row), to);
        }

        int factOfAll(int what) {
            switch (what) {
                case 0:
                    return memory.least();
                case 1:
                    return memory.greatest();
                case 2:
                    return memory.byteCount();
                case 3:
                    return memory.greatest() - memory.least() - memory.byteCount();
                case 4:
                    return memory.moveCount();
                case 5:
                    return symbolCount;
                case 6:
                    return literalParts.size();
                case 7:
                    return expander.expansionCount();
                case 8:
                    return expander.macroCount();
                default:
                    return stretches();
            }
        }

        int factOfPart(int part, int what) {
            int its = part & 3;
            switch (what) {
                case 0:
                    return memory.startOf(its);
                case 1:
                    return memory.sizeOf(its);
                case 2:
                    return code[its];
                case 3:
                    return align[its];
                case 4:
                    return origin[its];
                default:
                    return literals[its];
            }
        }

        int factOfSymbol(int at, int what) {
            Name name = symbolAt(at);
            switch (what) {
                case 0:
                    return name.kind;
                case 1:
                    return name.number;
                case 2:
                    return name.base;
                case 3:
                    return name.flat;
                case 4:
                    return usersOf(at);
                case 5:
                    return name.shared ? 1 : 0;
                default:
                    return name.weakFlat != NONE ? 1 : 0;
            }
        }

        private int usersOf(int symbol) {
            int users = 0;
            for (int i = 0; i < flatCount(); i++) {
                if (usesSymbol(i, symbol)) {
                    users++;
                }
            }
            return users;
        }

        boolean usesSymbol(int at, int symbol) {
            Flat flat = expander.flatAt(at);
            return (flat.usedLow & lowBit(symbol)) != 0 || (flat.usedHigh & highBit(symbol)) != 0;
        }

        /** The FLAT line at a place among those that USE a SYMBOL, NONE without one. */
        int userOf(int symbol, int place) {
            int left = place;
            for (int i = 0; i < flatCount(); i++) {
                if (usesSymbol(i, symbol)) {
                    if (left == 0) {
                        return i;
                    }
                    left--;
                }
            }
            return NONE;
        }

        /** Which of all LITERALS stands at a place in a PART, NONE without one. */
        int literalAt(int part, int place) {
            for (int i = 0; i < literalParts.size(); i++) {
                if (literalParts.at(i) == part && literalPlaces.at(i) == place) {
                    return i;
                }
            }
            return NONE;
        }

        int factOfLiteral(int literal, int what) {
            if (what == 2) {
                return memory.startOf(literalParts.at(literal)) + literalOffset(literal);
            }
            return what == 0 ? literalNumbers.at(literal) : literalBases.at(literal);
        }

        int factOfJumps(int what) {
            if (what == 3) {
                return passes;
            }
            if (what == 4) {
                shrinkJumps();
                return longJumps(otherSizes);
            }
            int jumps = 0;
            int shortable = 0;
            for (int i = 0; i < flatCount(); i++) {
                jumps += expander.flatAt(i).word == JUMP ? 1 : 0;
                shortable += expander.flatAt(i).shortable ? 1 : 0;
            }
            return what == 0 ? jumps : what == 1 ? shortable : longJumps(sizes);
        }

        private int longJumps(int[] someSizes) {
            int found = 0;
            for (int i = 0; i < flatCount(); i++) {
                if (expander.flatAt(i).word == JUMP && sizeAt(someSizes, i) == SIZE_LONG) {
                    found++;
                }
            }
            return found;
        }

        /** Leaves in otherSizes what SHRINKING makes of the SIZES. */
        private void shrinkJumps() {
            for (int i = 0; i < flatCount(); i++) {
                otherSizes[i] = expander.flatAt(i).shortable ? SIZE_LONG : sizes[i];
            }
            boolean changes = true;
            for (int round = 0; round <= MOST_LINES && changes; round++) {
                changes = false;
                for (int i = 0; i < flatCount(); i++) {
                    if (expander.flatAt(i).shortable && otherSizes[i] == SIZE_LONG && reaches(otherSizes, i)) {
                        otherSizes[i] = SIZE_SHORT;
                        changes = true;
                    }
                }
            }
        }

        // ---- STRETCHES and what is sound

        int stretches() {
            int found = 0;
            for (int i = 0; i < flatCount(); i++) {
                if (beginsStretch(i)) {
                    found++;
                }
            }
            return found;
        }

        private boolean beginsStretch(int at) {
            return at == 0 || expander.flatAt(at).part != expander.flatAt(at - 1).part;
        }

        /** The FLAT line with which a STRETCH begins, how many there are behind the last one. */
        private int beginOf(int stretch) {
            int left = stretch;
            for (int i = 0; i < flatCount(); i++) {
                if (beginsStretch(i)) {
                    if (left == 0) {
                        return i;
                    }
                    left--;
                }
            }
            return flatCount();
        }

        boolean haveNoNameInCommon(int stretch) {
            int first = beginOf(stretch);
            int second = beginOf(stretch + 1);
            int end = beginOf(stretch + 2);
            for (int i = 0; i < symbolCount; i++) {
                if (isNameIn(i, first, second) && isNameIn(i, second, end)) {
                    return false;
                }
            }
            return true;
        }

        private boolean isNameIn(int symbol, int from, int to) {
            for (int i = from; i < to; i++) {
                if (expander.flatAt(i).label == symbolAt(symbol) || usesSymbol(i, symbol)) {
                    return true;
                }
            }
            return false;
        }

        /** Writes the FORMS of all FLAT lines, a STRETCH and the next one exchanged; answers how many texts. */
        int writeExchanged(int stretch, Codes[] texts) {
            int first = stretch == NONE ? 0 : beginOf(stretch);
            int second = stretch == NONE ? 0 : beginOf(stretch + 1);
            int end = stretch == NONE ? 0 : beginOf(stretch + 2);
            int parting = first + end - second;
            int count = 0;
            for (int i = 0; i < flatCount(); i++) {
                if (i == parting && stretch == 0) {
                    Codes text = textOf(texts, count);
                    text.cutTo(0);
                    text.addAll("part 0");
                    count++;
                }
                int from = i;
                if (i >= first && i < end) {
                    from = i < parting ? i + second - first : i + second - end;
                }
                expander.writeFlat(from, textOf(texts, count));
                count++;
            }
            return count;
        }

        /** Whether all SHORT jumps reach and no choice of SHORT ones that all reach leaves fewer LONG. */
        boolean jumpsAreLeast() {
            if (!allShortReach(sizes)) {
                return false;
            }
            int shortable = factOfJumps(1);
            int choices = shortable > JUMPS_CHOSEN_FROM ? 0 : 1 << shortable;
            for (int choice = 0; choice < choices; choice++) {
                int which = 0;
                for (int i = 0; i < flatCount(); i++) {
                    otherSizes[i] = sizes[i];
                    if (expander.flatAt(i).shortable) {
                        otherSizes[i] = (choice >> which & 1) != 0 ? SIZE_LONG : SIZE_SHORT;
                        which++;
                    }
                }
                if (longJumps(otherSizes) < longJumps(sizes) && allShortReach(otherSizes)) {
                    return false;
                }
            }
            return true;
        }

        private boolean allShortReach(int[] someSizes) {
            for (int i = 0; i < flatCount(); i++) {
                if (expander.flatAt(i).shortable && sizeAt(someSizes, i) == SIZE_SHORT && !reaches(someSizes, i)) {
                    return false;
                }
            }
            return true;
        }
    }
}
