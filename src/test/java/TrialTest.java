/** Promises 11, 38, 40, 41: what would be, whether all is sound, the checksum; and that asking changes nothing. */
public final class TrialTest {
    public static void main(String[] args) {
        trial();
        faults();
        nothingChanges();
        sound();
        digest();
        assembleAgain();
        Due.end();
    }

    private static void trial() {
        Twopassworks w = Due.source("byte 1,2", "room 2", "stop");
        Due.same("the same line", 0, w.trial(2, 0, 7, 0, 0, 0));
        Due.same("another byte", 1, w.trial(0, 0, 1, 2, 9, 2));
        Due.same("one byte less", 3, w.trial(0, 0, 1, 1, 9, 0));
        Due.same("no line", 2, w.trial(1, 0, 0, 0, 0, 0));
        Due.same("elsewhere", 8, w.trial(1, 0, 10, 1, 100, 0));
        Due.same("the last line", 0, w.trial(2, 0, 1, 1, 0, 0));
        Due.same("with a label", 0, w.trial(2, 52, 7, 0, 0, 0));
        Due.outside("no such line", () -> w.trial(3, 0, 0, 0, 0, 0));
    }

    private static void faults() {
        Twopassworks w = Due.source("byte 1", "foo");
        Due.same("a fault as it is", -4, w.trial(0, 0, 1, 1, 2, 0));
        Due.same("a fault as it is, mended", -4, w.trial(1, 0, 1, 1, 2, 0));
        w.cut(1);
        Due.same("a fault as it would be", -9, w.trial(0, 0, 2, 1, 1000, 0));
        Due.same("a PARAMETER", -16, w.trial(0, 0, 2, 1, 1201, 0));
        Due.same("a LOCAL", -9, w.trial(0, 0, 2, 1, 1100, 0));
        Due.same("SPACE", -15, Due.source("part 1", "from 0", "stop", "part 0", "stop;").trial(0, 0, 9, 1, 2, 0));
        Due.same("a missing end", -5, w.trial(0, 0, 18, 1, 1, 0));
    }

    private static String stateOf(Twopassworks w) {
        StringBuilder all = new StringBuilder();
        for (int i = 0; i < w.lines(); i++) {
            all.append(w.text(i)).append('|');
        }
        return all.append(w.fault(0)).append(' ').append(w.fault(1)).append(' ').append(w.fault(2)).append(' ')
            .append(w.flatLines()).append(' ').append(w.row(0)).append(' ').append(w.changed(0)).append(' ')
            .append(Digest.of(w)).toString();
    }

    private static void nothingChanges() {
        Twopassworks w = Due.assembled("m: macro", "@x: word @x", "end", "m", "part 1", "load =7");
        Due.line(w, 6, "foo");
        Due.same("assemble", 4, w.assemble());
        String state = stateOf(w);
        w.trial(6, 0, 7, 0, 0, 0);
        Due.same("after a trial", state, stateOf(w));
        w.cut(6);
        Due.same("trial", 1, w.trial(5, 0, 6, 9, 8, 0));
        Due.line(w, 6, "foo");
        Due.same("after a trial without a fault", state, stateOf(w));
        w.isSound();
        w.value(1, 1000, 0, 0);
        w.digest();
        w.jumps(4);
        w.knock();
        Due.same("after asking", state, stateOf(w));
        Due.illegal("a trial refused", () -> w.trial(0, 0, 20, 0, 0, 0));
        Due.tooEarly("a sign refused", () -> Due.source("stop").flat(0));
        Due.same("after what was refused", state, stateOf(w));
    }

    private static void sound() {
        Due.same("without an IMAGE", true, new Twopassworks().isSound());
        Due.same("of nothing", true, Due.assembled().isSound());
        Due.same("of jumps", true, Due.assembled("a: jump b", "room 12", "jump a", "stop", "b: stop").isSound());
        Due.same("of STRETCHES", true, Due.assembled("a: load =5", "part 1", "b: jump b", "part 0", "align 4", "call a",
            "part 2", "from 90", "want v", "call v", "part 3", "word 7", "part 1", "load =-1").isSound());
        Due.same("of a full one", true, Due.assembled("repeat 5", "repeat 4", "part 1", "stop", "part 0", "stop",
            "stop",
            "byte 1", "end", "end").isSound());
    }

    private static void digest() {
        Twopassworks w = new Twopassworks();
        Due.same("digest at first", Digest.of(w), w.digest());
        w = Due.source(" a:byte  1;q", "!", "$a");
        Due.same("digest of a source", Digest.of(w), w.digest());
        w.assemble();
        Due.same("digest with a fault", Digest.of(w), w.digest());
        w = Due.assembled("m: macro", "@x: word @x,%1", "end", "want v", "weak u", "m v", "jump a", "part 1", "load =7",
            "a: load =v", "from 90", "share a", "b: let a+1", "jump a", "part 3", "room 9");
        Due.same("digest with an IMAGE", Digest.of(w), w.digest());
        w.cut(7);
        w.assemble();
        Due.same("digest with an OLD IMAGE", Digest.of(w), w.digest());
        long before = w.digest();
        Due.same("digest again", before, w.digest());
        w.put(0, 0, 0, 0, 0, 0);
        Due.same("digest of another source", false, before == w.digest());
    }

    private static void assembleAgain() {
        Twopassworks w = Due.assembled("a: stop", "jump a");
        Due.same("fault", "0 -1 0", w.fault(0) + " " + w.fault(1) + " " + w.fault(2));
        w.move(1, 0);
        Due.same("the IMAGE keeps its lines", "a: stop", w.flat(0));
        Due.same("assemble", 0, w.assemble());
        Due.same("the new IMAGE", "jump a", w.flat(0));
        w.rub(1, 0);
        Due.same("assemble with a fault", 3, w.assemble());
        Due.same("its line", 1, w.fault(1));
        Due.same("the IMAGE stays", "jump a", w.flat(0));
        w.cut(1);
        w.cut(0);
        Due.same("the fault stays", 1, w.fault(1));
    }
}
