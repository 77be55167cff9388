import java.util.ArrayList;
import java.util.List;

/** The boundary cases of sections 7 and 8: LENGTHS, STARTS, bytes, MOVES, IMAGES, SYMBOLS, STRETCHES, HOLES. */
public final class PlaceBoundsTest {
    public static void main(String[] args) {
        lengths();
        allFull();
        roundedUp();
        origins();
        greatestAlign();
        inCommon();
        firstPartInCommon();
        wordsWrapAround();
        callsWrapAround();
        shortAndLong();
        movesOfCalls();
        otherMoves();
        movesByAddresses();
        images();
        orderOfSymbols();
        uses();
        manyUses();
        usesOfLongRows();
        stretches();
        namesInCommon();
        shrinking();
        holes();
        differ();
        sound();
        Due.end();
    }

    private static void fault(String due, String... texts) {
        Due.same("fault of " + String.join("|", texts), due, Due.faultOf(texts));
    }

    private static void right(String... texts) {
        fault("0 -1 0", texts);
    }

    /** So many bytes of room. */
    private static List<String> room(int size) {
        List<String> all = new ArrayList<>();
        for (int left = size; left > 0; left -= 40) {
            all.add("room " + Math.min(left, 40));
        }
        return all;
    }

    private static String[] texts(List<String> texts) {
        return texts.toArray(new String[0]);
    }

    /** "With a LENGTH above 400: SPACE (line NONE, column the first such PART)"; LITERALS count, 2 bytes each. */
    private static void lengths() {
        for (int part = 0; part < 4; part++) {
            for (int size = 399; size <= 402; size++) {
                List<String> all = room(size);
                all.add(0, "part " + part);
                fault(size <= 400 ? "0 -1 0" : "15 -1 " + part, texts(all));
            }
            for (int size = 394; size <= 397; size++) {
                List<String> all = room(size);
                all.add(0, "part " + part);
                all.add("load =7");
                fault(size <= 395 ? "0 -1 0" : "15 -1 " + part, texts(all));
            }
        }
        List<String> two = room(401);
        two.add("part 2");
        two.addAll(room(401));
        fault("15 -1 0", texts(two));
        two.set(0, "stop");
        fault("15 -1 2", texts(two));
        // A LENGTH above 400 counts ahead of addresses in common.
        two.add("part 1");
        two.add("from 0");
        two.add("stop");
        fault("15 -1 2", texts(two));
        two.remove(two.size() - 4);
        fault("15 -1 1", texts(two));
    }

    private static void allFull() {
        List<String> all = new ArrayList<>();
        for (int part = 3; part >= 0; part--) {
            all.add("part " + part);
            all.addAll(room(400));
        }
        Twopassworks w = Due.assembled(texts(all));
        for (int part = 0; part < 4; part++) {
            Due.same("START of " + part, 400 * part, w.part(part, 0));
            Due.same("LENGTH of " + part, 400, w.part(part, 1));
            Due.same("CODE of " + part, 400, w.part(part, 2));
        }
        Due.same("bytes", 1600, w.image(2));
        Due.same("greatest end", 1600, w.image(1));
        Due.same("the last byte", 0, w.byteAt(1599));
        Due.same("behind it", -1, w.byteAt(1600));
        all.add("part 1");
        all.add("from 400");
        right(texts(all));
        all.set(all.size() - 1, "from 399");
        fault("15 -1 1", texts(all));
        all.set(all.size() - 2, "part 0");
        right(texts(all));
        all.set(all.size() - 1, "stop");
        fault("15 -1 0", texts(all));
    }

    /** "the end (START + LENGTH) of the PART before (of PART 0: 0), rounded up to a multiple of ALIGN". */
    private static void roundedUp() {
        for (int align = 1; align <= 16; align *= 2) {
            for (int size = 0; size <= 33; size++) {
                Twopassworks w = Due.assembled("align " + align, "room " + size, "part 1", "align " + align, "part 2");
                int start = (size + align - 1) / align * align;
                Due.same("START of 0 with align " + align, 0, w.part(0, 0));
                Due.same("START of 1 behind " + size + " with align " + align, start, w.part(1, 0));
                Due.same("START of 2 behind " + size + " with align " + align, start, w.part(2, 0));
                Due.same("START of 3 behind " + size + " with align " + align, start, w.part(3, 0));
            }
        }
    }

    private static void part(Twopassworks w, int part, int... due) {
        for (int what = 0; what < due.length; what++) {
            Due.same("part " + part + " " + what, due[what], w.part(part, what));
        }
    }

    /** "ORIGIN: the last that from told in it. START of PART by PART: ORIGIN, if there is one". */
    private static void origins() {
        Twopassworks w = Due.assembled();
        for (int i = 0; i < 4; i++) {
            part(w, i, 0, 0, 0, 1, -1, 0);
        }
        w = Due.assembled("from 0", "stop", "part 1", "from 500", "stop", "part 2", "stop");
        part(w, 0, 0, 1, 1, 1, 0, 0);
        part(w, 1, 500, 1, 1, 1, 500, 0);
        part(w, 2, 501, 1, 1, 1, -1, 0);
        part(w, 3, 502, 0, 0, 1, -1, 0);
        w = Due.assembled("from 9", "from 7", "part 1", "from 3", "part 0", "align 16");
        part(w, 0, 7, 0, 0, 16, 7, 0);
        part(w, 1, 3, 0, 0, 1, 3, 0);
        part(w, 2, 3, 0, 0, 1, -1, 0);
        w = Due.assembled("part 3", "from 5", "stop");
        part(w, 2, 0, 0, 0, 1, -1, 0);
        part(w, 3, 5, 1, 1, 1, 5, 0);
        w = Due.assembled("load =1", "part 1", "align 2");
        part(w, 0, 0, 5, 3, 1, -1, 1);
        part(w, 1, 6, 0, 0, 2, -1, 0);
    }

    /** "ALIGN of a PART: the greatest that align told in it (1 without)". */
    private static void greatestAlign() {
        Twopassworks w = Due.assembled("align 4", "align 16", "align 8", "part 1", "align 1", "part 2", "align 2",
            "part 0");
        int[] aligns = {16, 1, 2, 1};
        for (int i = 0; i < 4; i++) {
            Due.same("ALIGN of " + i, aligns[i], w.part(i, 3));
        }
    }

    /** "If two PARTS, both with a LENGTH above 0, have an address in common: SPACE". */
    private static void inCommon() {
        for (int from = 0; from <= 20; from++) {
            boolean apart = from + 3 <= 10 || from >= 15;
            fault(apart ? "0 -1 0" : "15 -1 1", "from 10", "room 5", "part 1", "from " + from, "byte 1,2,3");
            right("from 10", "room 5", "part 1", "from " + from, "a:");
            right("from 10", "a:", "part 1", "from " + from, "byte 1,2,3");
        }
        fault("15 -1 1", "load =1", "part 1", "from 4", "stop");
        right("load =1", "part 1", "from 5", "stop");
        fault("15 -1 1", "from 3", "stop", "part 1", "from 0", "load =1", "part 2");
        right("from 5", "stop", "part 1", "from 0", "load =1", "part 2");
    }

    /** "column the first PART that has so with an earlier one". */
    private static void firstPartInCommon() {
        for (int part = 1; part < 4; part++) {
            for (int earlier = 0; earlier < part; earlier++) {
                String[] all = new String[12];
                for (int i = 0; i < 4; i++) {
                    all[3 * i] = "part " + i;
                    all[3 * i + 1] = "from " + (i == part ? 100 * earlier : 100 * i);
                    all[3 * i + 2] = "stop";
                }
                fault("15 -1 " + part, all);
            }
        }
        fault("15 -1 2", "from 9", "stop", "part 1", "from 20", "stop", "part 2", "from 20", "stop", "part 3",
            "from 9", "stop");
        fault("15 -1 1", "stop", "part 1", "from 0", "stop", "part 2", "from 0", "stop");
    }

    private static String bytes(Twopassworks w, int from, int to) {
        StringBuilder all = new StringBuilder();
        for (int i = from; i < to; i++) {
            all.append(i > from ? " " : "").append(w.byteAt(i));
        }
        return all.toString();
    }

    /** "words modulo 65536 with the low byte first"; "with a PART its START + number, otherwise the number". */
    private static void wordsWrapAround() {
        Due.same("above 65535", "255 255 0 0 243 1",
            bytes(Due.assembled("from 500", "a: word a+65035,a+65036,a+65535"), 500, 506));
        Due.same("below 0", "255 255 1 0 0 0", bytes(Due.assembled("a: word a-1,a-65535,a"), 0, 6));
        Due.same("a WANTED one", "255 255 255 255 1 0",
            bytes(Due.assembled("want v", "word v-1,v+65535,v-65535"), 0, 6));
        Due.same("a LITERAL", "49 3 0 255 255", bytes(Due.assembled("a: load =a-1"), 0, 5));
        Due.same("a LONG jump", "17 255 255", bytes(Due.assembled("a: jump a-1"), 0, 3));
        Due.same("low byte first", "52 18", bytes(Due.assembled("word $1234"), 0, 2));
    }

    /** "ADDRESS meant less (ADDRESS of the line + 3)", modulo 65536. */
    private static void callsWrapAround() {
        Twopassworks w = Due.assembled("a: call a", "call b", "b: call 0", "call 65535", "want v", "call v-65535",
            "call c", "part 1", "from 100", "c: call a");
        Due.same("calls", "32 253 255 32 0 0 32 247 255 32 243 255 32 242 255 32 82 0", bytes(w, 0, 18));
        Due.same("from another PART", "32 153 255", bytes(w, 100, 103));
    }

    /** "jump: SHORT 16 and REACH; LONG 17 and the WORD." */
    private static void shortAndLong() {
        Due.same("REACH 15", "16 15", bytes(Due.assembled("jump b", "room 15", "b:"), 0, 2));
        Due.same("REACH 16", "17 19 0 0", bytes(Due.assembled("jump b", "room 16", "b:"), 0, 4));
        Due.same("REACH -16", "16 240", bytes(Due.assembled("b: room 14", "jump b"), 14, 16));
        Due.same("REACH -17", "17 0 0", bytes(Due.assembled("b: room 15", "jump b"), 15, 18));
        Due.same("REACH 0", "16 0", bytes(Due.assembled("jump b", "b:"), 0, 2));
        Due.same("START counts", "17 27 0", bytes(Due.assembled("from 8", "jump b", "room 16", "b:"), 8, 11));
    }

    private static void move(Twopassworks w, int at, int... due) {
        for (int what = 0; what < due.length; what++) {
            Due.same("MOVE " + at + " " + what, due[what], w.ofMove(at, what));
        }
    }

    /** "a MOVE of KIND 3, if BASE is not its own PART". */
    private static void movesOfCalls() {
        Twopassworks w = Due.assembled("a: call a", "call .", "part 1", "call a", "b: call b", "want v", "call v",
            "call 7", "call a-a", "part 0", "call b+1");
        Due.same("MOVES", 5, w.image(4));
        move(w, 0, 7, 3, 1, 4);
        move(w, 1, 10, 3, 0, 0);
        move(w, 2, 16, 3, 12, 0);
        move(w, 3, 19, 3, -1, 7);
        move(w, 4, 22, 3, -1, 0);
        int[][] counts = {{-1, 2}, {0, 1}, {1, 1}, {2, 0}, {9, 0}, {10, 0}, {12, 1}, {13, 0}, {200, 0}};
        for (int[] count : counts) {
            Due.same("moves(" + count[0] + ")", count[1], w.moves(count[0]));
        }
    }

    /** "a MOVE of KIND 1 with a PART, of KIND 2 with a WANTED symbol, none without a BASE". */
    private static void otherMoves() {
        Due.same("none", 0, Due.assembled("byte 1", "word 1", "room 2", "stop", "a: jump a", "jump 5", "load 5",
            "word a-a", "weak w", "word w", "call a").image(4));
        Twopassworks w = Due.assembled("from 10", "want v", "word a,v+2", "a: jump a+1", "jump v", "load =3",
            "load =v");
        Due.same("MOVES", 7, w.image(4));
        move(w, 0, 10, 1, 0, 4);
        move(w, 1, 12, 2, 11, 2);
        move(w, 2, 15, 1, 0, 5);
        move(w, 3, 18, 2, 11, 0);
        move(w, 4, 21, 1, 0, 16);
        move(w, 5, 24, 1, 0, 18);
        move(w, 6, 28, 2, 11, 0);
        Due.outside("one MOVE more", () -> w.ofMove(7, 0));
    }

    /** "MOVES are told by addresses", not by PARTS or FLAT lines. */
    private static void movesByAddresses() {
        Twopassworks w = Due.assembled("from 100", "a: word a", "part 1", "from 50", "word a", "part 2", "from 0",
            "load =a", "part 0", "word a");
        int[] addresses = {1, 3, 50, 100, 102};
        Due.same("MOVES", addresses.length, w.image(4));
        for (int i = 0; i < addresses.length; i++) {
            Due.same("address of " + i, addresses[i], w.ofMove(i, 0));
        }
    }

    private static void changed(Twopassworks w, int... due) {
        for (int what = 0; what < due.length; what++) {
            Due.same("changed(" + what + ")", due[what], w.changed(what));
        }
    }

    /** "the OLD IMAGE is the IMAGE of before .. With a fault both stay. (Neither is there at first.)" */
    private static void images() {
        Twopassworks w = Due.source("byte 1,2");
        Due.tooEarly("no IMAGE", () -> w.changed(0));
        w.flatten();
        Due.tooEarly("flatten makes none", () -> w.changed(0));
        w.trial(0, 0, 7, 0, 0, 0);
        Due.tooEarly("trial makes none", () -> w.changed(0));
        Due.same("assemble", 0, w.assemble());
        changed(w, 2, 0, 1);
        w.put(1, 0, 6, 1, 999, 0);
        Due.same("a fault", 12, w.assemble());
        changed(w, 2, 0, 1);
        Due.same("FLAT lines stay", 1, w.flatLines());
        w.cut(1);
        Due.same("assemble", 0, w.assemble());
        changed(w, 0, -1, -1);
        w.clear();
        Due.same("assemble nothing", 0, w.assemble());
        changed(w, 2, 0, 1);
        Due.same("assemble nothing again", 0, w.assemble());
        changed(w, 0, -1, -1);
    }

    /** "sign by sign, digits ahead of "_" ahead of letters, a beginning ahead of what is longer". */
    private static void orderOfSymbols() {
        String[] names = {"a", "a0", "a00", "a09", "a0_", "a0a", "a9", "a_", "a_0", "a__", "a_z", "aa", "aa0", "az",
            "b", "z", "z0"};
        List<String> texts = new ArrayList<>();
        for (int i = 0; i < names.length; i++) {
            texts.add(names[i * 7 % names.length] + ":");
        }
        Twopassworks w = Due.assembled(texts(texts));
        Due.same("SYMBOLS", names.length, w.image(5));
        for (int i = 0; i < names.length; i++) {
            Due.same("SYMBOL " + i, names[i], w.symbol(i));
            Due.same("FLAT line of " + names[i], names[i] + ":", w.flat(w.ofSymbol(i, 3)));
        }
        Due.outside("one SYMBOL more", () -> w.symbol(names.length));
        List<String> most = new ArrayList<>();
        for (int i = 0; i < 120; i++) {
            most.add(i % 3 == 0 ? "want a" + (120 - i) : i % 3 == 1 ? "weak a" + (120 - i) : "a" + (120 - i) + ":");
        }
        Twopassworks full = Due.assembled(texts(most));
        Due.same("120 SYMBOLS", 120, full.image(5));
        Due.same("the first", "a1", full.symbol(0));
        Due.same("the last", "a99", full.symbol(119));
        Due.same("its BASE", 129, full.ofSymbol(119, 2));
        Due.same("its number", 0, full.ofSymbol(119, 1));
    }

    /** "A FLAT line USES a SYMBOL, if its NAME stands in an EXPRESSION of it, or behind share, want, weak." */
    private static void uses() {
        Twopassworks w = Due.assembled("a: word a,a-a+a", "b: let 1", "share a", "weak a", "want c", "room b*0", "a_:",
            "load =c", "d: let b+b", "m: macro", "word %1", "end", "m d");
        String[] due = {"0 2 3", "", "5 8", "4 7", "9"};
        for (int i = 0; i < due.length; i++) {
            StringBuilder users = new StringBuilder();
            for (int place = 0; place < w.ofSymbol(i, 4); place++) {
                users.append(place > 0 ? " " : "").append(w.use(i, place));
            }
            Due.same("what USES " + w.symbol(i), due[i], users);
            int symbol = i;
            Due.outside("no further place", () -> w.use(symbol, w.ofSymbol(symbol, 4)));
        }
    }

    /** The same of 120 SYMBOLS, each USED by one FLAT line. */
    private static void manyUses() {
        List<String> all = new ArrayList<>();
        for (int i = 0; i < 120; i++) {
            all.add("a" + i + ": word a" + (i + 7) % 120);
        }
        Twopassworks w = Due.assembled(texts(all));
        for (int at = 0; at < 120; at++) {
            int number = Integer.parseInt(w.symbol(at).substring(1));
            Due.same("FLAT line of " + w.symbol(at), number, w.ofSymbol(at, 3));
            Due.same("how many USE " + w.symbol(at), 1, w.ofSymbol(at, 4));
            Due.same("which one USES " + w.symbol(at), (number + 113) % 120, w.use(at, 0));
        }
    }

    /** The same where the NAMES stand far behind in an argument that is handed on. */
    private static void usesOfLongRows() {
        StringBuilder sum = new StringBuilder("0+0+0+0+0+0");
        for (int i = 100; i < 112; i++) {
            sum.append("+n").append(i);
        }
        List<String> all = new ArrayList<>(List.of("m: macro", "word %1", "end", "n: macro", "m 1+%1+2", "end",
            "n " + sum));
        for (int i = 22; i < 112; i++) {
            all.add("weak n" + (i < 100 ? "00" + i : "" + i));
        }
        Twopassworks w = Due.assembled(texts(all));
        Due.same("SYMBOLS", 90, w.image(5));
        for (int at = 0; at < 90; at++) {
            boolean used = w.symbol(at).compareTo("n100") >= 0;
            Due.same("how many USE " + w.symbol(at), used ? 2 : 1, w.ofSymbol(at, 4));
            Due.same("which one USES " + w.symbol(at), used ? 0 : at + 1, w.use(at, 0));
        }
        all.set(all.size() - 1, "stop");
        fault("9 1 " + (7 + sum.length() - 4), texts(all));
    }

    /** "STRETCH: a row of FLAT lines of one PART, as long as can be." */
    private static void stretches() {
        String[][] due = {
            // how many, the SOURCE
            {"0"}, {"1", "stop"}, {"1", "part 0"}, {"1", "part 1"}, {"1", "part 0", "part 0", "stop"},
            {"2", "stop", "part 1"}, {"2", "stop", "part 1", "part 1"}, {"3", "stop", "part 1", "part 0"},
            {"4", "part 3", "part 2", "part 1", "part 0"}, {"0", "m: macro", "part 1", "end"}};
        for (String[] row : due) {
            String[] texts = new String[row.length - 1];
            System.arraycopy(row, 1, texts, 0, texts.length);
            Twopassworks w = Due.assembled(texts);
            int count = Integer.parseInt(row[0]);
            Due.same("STRETCHES of " + String.join("|", texts), count, w.image(9));
            for (int i = 0; i < count - 1; i++) {
                Due.same("mayChangePlaces(" + i + ")", true, w.mayChangePlaces(i));
            }
            Due.outside("no next one", () -> w.mayChangePlaces(Math.max(0, count - 1)));
            Due.outside("no such one", () -> w.mayChangePlaces(count));
            Due.outside("no such one", () -> w.mayChangePlaces(-1));
        }
    }

    private static void common(boolean due, String first, String second) {
        Twopassworks w = Due.assembled(first, "part 1", second, "part 2", "b: stop", "c: let 1", "want d", "weak e");
        Due.same("mayChangePlaces of " + first + " and " + second, due, w.mayChangePlaces(0));
    }

    /** "A NAME of a STRETCH is one that is a LABEL there or USED there." */
    private static void namesInCommon() {
        common(true, "a: stop", "f: stop");
        common(false, "a: stop", "word a");
        common(false, "word a", "a: stop");
        common(false, "word b", "word b");
        common(true, "word b", "word c");
        common(false, "word c", "byte c");
        common(false, "word d", "load =d");
        common(false, "word e", "call e");
        common(false, "share b", "word b");
        common(false, "weak b", "share b");
        common(false, "weak e", "weak e");
        common(false, "a: let 5", "room a");
        common(true, "word .", "word .");
    }

    /** "all jumps are LONG; then, jump by jump in order, .. again and again, till a round changes nothing." */
    private static void shrinking() {
        Twopassworks w = Due.assembled("a: jump b", "room 12", "jump a", "room 1", "b:");
        Due.same("LONG", 0, w.jumps(2));
        Due.same("none of two reaches while the other is LONG", 2, w.jumps(4));
        w = Due.assembled("a: jump b", "room 11", "jump a", "room 1", "b:");
        Due.same("the second one reaches once the first is SHORT", 0, w.jumps(4));
        w = Due.assembled("jump b", "room 12", "jump c", "room 1", "b:", "c:");
        Due.same("the first one reaches in the second round", 0, w.jumps(4));
        w = Due.assembled("jump b", "room 12", "jump c", "room 2", "b:", "c:");
        Due.same("the first one does not reach", 1, w.jumps(4));
        w = Due.assembled("jump b", "room 16", "b:", "jump 7", "jump .");
        Due.same("those that are not SHORTABLE stay LONG", 3, w.jumps(4));
        Due.same("none", 0, Due.assembled("stop").jumps(4));
        w = Due.assembled("a: jump b", "room 12", "jump a", "room 1", "b:");
        w.jumps(4);
        Due.same("SHRINKING changes nothing", "0 2 0", w.jumps(2) + " " + w.ofFlat(0, 5) + " " + w.jumps(2));
    }

    private static void holes(String due, String... texts) {
        Twopassworks w = Due.assembled(texts);
        Due.same("least, end, bytes, HOLES of " + String.join("|", texts), due,
            w.image(0) + " " + w.image(1) + " " + w.image(2) + " " + w.image(3));
    }

    /** "addresses that are of no PART, not below the least START and below the greatest end of PARTS with a LENGTH". */
    private static void holes() {
        holes("0 0 0 0");
        holes("0 0 0 0", "from 100", "part 3", "from 500");
        holes("500 501 1 0", "from 500", "stop", "part 1", "from 3");
        holes("3 4 1 0", "from 500", "part 1", "from 3", "stop");
        holes("0 2 2 0", "stop", "part 1", "stop");
        holes("0 3 2 1", "stop", "part 1", "from 2", "stop");
        holes("0 17 2 15", "stop", "part 1", "align 16", "stop");
        holes("3 502 5 494", "part 3", "from 3", "byte 1,2,3", "part 1", "from 500", "word 0");
        Twopassworks w = Due.assembled("part 3", "from 3", "byte 1,2,3", "part 1", "from 500", "word 5");
        Due.same("bytes and HOLES", "-1 1 2 3 -1", bytes(w, 2, 7));
        Due.same("bytes and HOLES", "-1 5 0 -1", bytes(w, 499, 503));
    }

    private static void differ(String due, String[] first, String... second) {
        Twopassworks w = Due.assembled(first);
        w.clear();
        for (int i = 0; i < second.length; i++) {
            Due.line(w, i, second[i]);
        }
        Due.same("assemble", 0, w.assemble());
        Due.same(String.join("|", first) + " and " + String.join("|", second), due,
            w.changed(0) + " " + w.changed(1) + " " + w.changed(2));
    }

    /** "An address DIFFERS .. if both have unlike bytes there, or just one of them has one." */
    private static void differ() {
        String[] bytes = {"byte 1,2,3"};
        differ("0 -1 -1", bytes, bytes);
        differ("0 -1 -1", bytes, "part 2", "byte 1", "part 3", "byte 2,3");
        differ("1 0 0", bytes, "byte 0,2,3");
        differ("1 2 2", bytes, "byte 1,2,4");
        differ("2 0 2", bytes, "byte 4,2,4");
        differ("1 2 2", bytes, "byte 1,2");
        differ("1 3 3", bytes, "byte 1,2,3", "stop");
        differ("3 0 2", bytes);
        differ("3 0 2", new String[0], bytes);
        differ("0 -1 -1", new String[0]);
        differ("6 0 502", bytes, "from 500", "byte 1,2,3");
        differ("2 0 3", bytes, "from 1", "byte 2,3,0");
        // What is moved or told otherwise is not another byte.
        differ("0 -1 -1", new String[] {"a: word a"}, "word 0");
    }

    /** isSound(): "true without an IMAGE"; with none, one and many STRETCHES and jumps, and with 120 FLAT lines. */
    private static void sound() {
        Twopassworks w = new Twopassworks();
        Due.same("without an IMAGE", true, w.isSound());
        w.put(0, 0, 16, 0, 0, 0);
        w.assemble();
        Due.same("with a fault and no IMAGE", true, w.isSound());
        Due.same("of nothing", true, Due.assembled().isSound());
        for (int jumps = 5; jumps <= 8; jumps++) {
            List<String> all = new ArrayList<>();
            for (int i = 0; i < jumps; i++) {
                all.add("a" + i + ": jump a" + (jumps - 1 - i));
                all.add("room " + (16 - jumps));
            }
            Due.same("of " + jumps + " jumps", true, Due.assembled(texts(all)).isSound());
        }
        for (int count : new int[] {117, 118, 119, 120}) {
            List<String> all = new ArrayList<>();
            for (int i = 0; i < count; i++) {
                all.add(i % 3 == 2 ? "part " + i % 4 : i % 3 == 1 ? "stop" : "n" + i + ": load =" + i % 5);
            }
            Twopassworks full = Due.assembled(texts(all));
            Due.same("of " + count + " FLAT lines", true, full.isSound());
            Due.same("digest of " + count + " FLAT lines", Digest.of(full), full.digest());
        }
    }
}
