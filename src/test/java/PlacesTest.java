/** Promises 24 to 27, 31, 32, 36, 37: section 7, places, bytes, MOVES, the listing; HOLES, STRETCHES. */
public final class PlacesTest {
    public static void main(String[] args) {
        starts();
        space();
        bytes();
        listing();
        moves();
        holes();
        stretches();
        images();
        Due.end();
    }

    private static void fault(String due, String... texts) {
        Due.same("fault of " + String.join("|", texts), due, Due.faultOf(texts));
    }

    private static void part(Twopassworks w, int part, int... due) {
        for (int what = 0; what < due.length; what++) {
            Due.same("part " + part + " " + what, due[what], w.part(part, what));
        }
    }

    private static void starts() {
        Twopassworks w = Due.assembled("byte 1,2,3", "part 1", "align 4", "align 2", "byte 1", "part 2", "from 100",
            "align 16", "from 33", "load =1", "part 3", "align 8");
        part(w, 0, 0, 3, 3, 1, -1, 0);
        part(w, 1, 4, 1, 1, 4, -1, 0);
        part(w, 2, 33, 5, 3, 16, 33, 1);
        part(w, 3, 40, 0, 0, 8, -1, 0);
        w = Due.assembled("from 7", "align 16", "part 1", "align 16");
        part(w, 0, 7, 0, 0, 16, 7, 0);
        part(w, 1, 16, 0, 0, 16, -1, 0);
        part(w, 2, 16, 0, 0, 1, -1, 0);
        Due.same("ADDRESS", 16, w.ofFlat(2, 6));
        w = Due.assembled("align 16");
        part(w, 0, 0, 0, 0, 16, -1, 0);
    }

    private static void space() {
        String room = "room 40";
        Twopassworks w = Due.source("repeat 5", room, room, "end", "part 1");
        Due.same("400 bytes", 0, w.assemble());
        Due.line(w, 5, "part 0");
        Due.line(w, 6, "stop");
        Due.same("401 bytes", 15, w.assemble());
        Due.same("line", -1, w.fault(1));
        Due.same("column", 0, w.fault(2));
        fault("15 -1 2", "part 2", "repeat 5", room, room, "end", "load =1");
        fault("15 -1 1", "part 1", "repeat 5", room, room, "end", "stop", "part 0", "from 0", "repeat 5", room, "end");
        fault("15 -1 1", "byte 1,2", "part 1", "from 1", "stop");
        fault("0 -1 0", "byte 1,2", "part 1", "from 2", "stop");
        fault("0 -1 0", "byte 1,2", "part 1", "from 1");
        fault("0 -1 0", "from 1", "part 1", "from 0", "byte 1,2,3");
        fault("15 -1 3", "part 3", "from 0", "stop", "part 1", "stop");
        fault("15 -1 2", "from 5", "stop", "part 1", "from 0", "byte 1,2,3", "part 2", "from 2", "byte 1", "part 3",
            "from 5",
            "stop");
        fault("0 -1 0", "from 5", "stop", "part 1", "from 4", "stop", "part 2", "from 3", "stop");
    }

    private static String dump(Twopassworks w, int from, int to) {
        StringBuilder all = new StringBuilder();
        for (int i = from; i < to; i++) {
            int cell = w.byteAt(i);
            all.append(i > from ? " " : "").append(cell < 0 ? "-" : Integer.toHexString(cell));
        }
        return all.toString();
    }

    private static void bytes() {
        Due.same("byte", "1 ff ff 80", dump(Due.assembled("byte 1,255,-1", "byte -128"), 0, 4));
        Due.same("word", "34 12 ff ff 0 80 -", dump(Due.assembled("word $1234,65535,-32768"), 0, 7));
        Due.same("room, stop", "1 0 0 0 2", dump(Due.assembled("byte 1", "room 2", "stop", "byte 2"), 0, 5));
        Due.same("word of a PART", "- 18 0 12 0 fe ff", dump(Due.assembled("from 20", "word a,.-2", "a: word a-26"),
            19, 26));
        Due.same("SHORT", "10 fe 10 1 0 0", dump(Due.assembled("a: jump a", "jump b", "stop", "b: stop"), 0, 6));
        Due.same("LONG", "- 11 d 0 11 f4 1 11 0 0",
            dump(Due.assembled("from 10", "want v", "a: jump a+3", "jump 500", "jump v"), 9, 19));
        Due.same("call", "20 3 0 20 fd ff 20 f7 ff 20 f5 ff",
            dump(Due.assembled("want v", "call b", "a: call a", "b: call v", "call 1"), 0, 12));
        Due.same("load", "30 7 31 5 0 0 1", dump(Due.assembled("load 7", "load =256"), 0, 7));
    }

    private static void listing() {
        Twopassworks w = Due.assembled("a:", "from $c0", "byte 1,$ff ; x", "word 1,2,a", "room 4", "room 5", "stop",
            "load =.");
        String[] due = {"00c0   a:", "00c0   from 192", "00c0 01ff  byte 1, 255", "00c2 01000200+  word 1, 2, a",
            "00c8 00000000  room 4", "00cc 00000000+  room 5", "00d1 00  stop", "00d2 31d500  load =."};
        for (int i = 0; i < due.length; i++) {
            Due.same("row " + i, due[i], w.row(i));
        }
        Due.same("flat", "byte 1, 255", w.flat(2));
    }

    private static void moves() {
        Twopassworks w = Due.assembled("want v", "part 1", "from 0", "word 5,v+1,b", "word .", "call b", "call v",
            "call 9",
            "b: call b", "jump v", "load =v", "load 1", "load =7", "part 0", "from 100", "a: word b", "jump a+1",
            "jump a",
            "call b");
        int[][] due = {
            // address, KIND, BASE, number
            {2, 2, 10 + 2, 1}, {4, 1, 1, 17}, {6, 1, 1, 6}, {12, 3, 12, 0}, {15, 3, -1, 9}, {21, 2, 12, 0},
            {24, 1, 1, 31}, {29, 1, 1, 33}, {31, 2, 12, 0}, {100, 1, 1, 17}, {103, 1, 0, 1}, {108, 3, 1, 17}};
        Due.same("MOVES", due.length, w.image(4));
        for (int i = 0; i < due.length; i++) {
            for (int what = 0; what <= 3; what++) {
                Due.same("MOVE " + i + " " + what, due[i][what], w.ofMove(i, what));
            }
        }
        Due.same("moves(-1)", 1, w.moves(-1));
        Due.same("moves(0)", 1, w.moves(0));
        Due.same("moves(1)", 6, w.moves(1));
        Due.same("moves(12)", 4, w.moves(12));
        Due.same("moves(11)", 0, w.moves(11));
    }

    private static void holes() {
        Twopassworks w = Due.assembled("from 10", "byte 1,2", "part 1", "align 16", "byte 1", "part 3", "from 5",
            "stop",
            "part 2", "from 500");
        Due.same("least START", 5, w.image(0));
        Due.same("greatest end", 17, w.image(1));
        Due.same("bytes", 4, w.image(2));
        Due.same("HOLES", 8, w.image(3));
        Due.same("byteAt a HOLE", -1, w.byteAt(6));
        Due.same("byteAt below", -1, w.byteAt(4));
        Due.same("byteAt behind", -1, w.byteAt(17));
        Due.same("byteAt", 2, w.byteAt(11));
        w = Due.assembled("from 10", "part 1");
        Due.same("no bytes", "0 0 0 0", w.image(0) + " " + w.image(1) + " " + w.image(2) + " " + w.image(3));
    }

    private static void stretches() {
        Twopassworks w = Due.assembled("a: stop", "part 0", "part 1", "stop", "part 1", "b: stop", "part 0",
            "jump b", "part 2",
            "stop", "part 3", "c: let 1", "part c-c", "stop");
        Due.same("STRETCHES", 6, w.image(9));
        boolean[] due = {true, false, true, true, false};
        for (int i = 0; i < due.length; i++) {
            Due.same("mayChangePlaces " + i, due[i], w.mayChangePlaces(i));
        }
        Due.outside("the last STRETCH", () -> w.mayChangePlaces(5));
        Due.same("one STRETCH", 1, Due.assembled("part 0", "stop").image(9));
        Twopassworks marks = Due.assembled("weak v", "part 1", "weak v", "part 2", "want u", "part 3", "share b",
            "part 0",
            "b:", "part 1", "word u-u", "part 2", "c:");
        boolean[] marked = {false, true, true, false, true, true};
        for (int i = 0; i < marked.length; i++) {
            Due.same("mayChangePlaces with marks " + i, marked[i], marks.mayChangePlaces(i));
        }
    }

    private static void changedAs(Twopassworks w, int... due) {
        for (int what = 0; what <= 2; what++) {
            Due.same("changed " + what, due[what], w.changed(what));
        }
    }

    private static void images() {
        Twopassworks w = Due.assembled("from 5", "byte 1,2,3");
        changedAs(w, 3, 5, 7);
        Due.same("again", 0, w.assemble());
        changedAs(w, 0, -1, -1);
        w.sign(1, 5, '9');
        Due.same("another byte", 0, w.assemble());
        changedAs(w, 1, 5, 5);
        w.sign(0, 6, '0');
        Due.same("elsewhere", 0, w.assemble());
        changedAs(w, 6, 5, 52);
        Due.line(w, 2, "!");
        Due.same("a fault", 1, w.assemble());
        changedAs(w, 6, 5, 52);
        Due.same("the IMAGE stays", 91, w.byteAt(50));
        w.clear();
        Due.same("kept as it was", "byte 91, 2, 3", w.flat(1));
        Due.same("line of it", 1, w.ofFlat(1, 0));
        Due.same("nothing", 0, w.assemble());
        changedAs(w, 3, 50, 52);
        Due.same("flatLines()", 0, w.flatLines());
    }
}
