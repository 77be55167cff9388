/** Wrong inputs: each exception that a promise names, their order where several apply, and that nothing changes. */
public final class EdgesTest {
    public static void main(String[] args) {
        source();
        reading();
        beforeAnImage();
        behindAnImage();
        trial();
        Due.end();
    }

    private static void source() {
        Twopassworks w = new Twopassworks();
        Due.outside("put(1) into nothing", () -> w.put(1, 0, 0, 0, 0, 0));
        Due.outside("put(-1) ahead of a wrong label", () -> w.put(-1, 53, 0, 0, 0, 0));
        for (int label : new int[] {-1, 53}) {
            Due.illegal("put label " + label, () -> w.put(0, label, 0, 0, 0, 0));
        }
        for (int order : new int[] {-1, 20, 100, 127}) {
            Due.illegal("put order " + order, () -> w.put(0, 0, order, 0, 0, 0));
        }
        for (int shape : new int[] {-1, 11}) {
            Due.illegal("put shape " + shape, () -> w.put(0, 0, 0, shape, 0, 0));
        }
        for (int atom : new int[] {-1, 1026, 1099, 1126, 1200, 1204, 1299, 1301, 1999, 2256}) {
            Due.illegal("put x " + atom, () -> w.put(0, 0, 0, 0, atom, 0));
            Due.illegal("put y " + atom, () -> w.put(0, 0, 0, 1, 0, atom));
        }
        Due.same("lines() after refusals", 0, w.lines());
        for (int i = 0; i < 120; i++) {
            Due.same("put " + i, i + 1, w.put(i, 0, 7, 0, 0, 0));
        }
        Due.tooEarly("put the 121st", () -> w.put(0, 0, 0, 0, 0, 0));
        Due.illegal("put the 121st with a wrong label", () -> w.put(0, 53, 0, 0, 0, 0));
        Due.outside("put the 121st at 121", () -> w.put(121, 0, 0, 0, 0, 0));
        Due.outside("remark line 120", () -> w.remark(120, 100));
        Due.outside("remark line -1", () -> w.remark(-1, 0));
        Due.illegal("remark -1", () -> w.remark(0, -1));
        Due.illegal("remark 100", () -> w.remark(0, 100));
        Due.outside("sign line 120", () -> w.sign(120, 0, 0));
        Due.outside("sign column -1", () -> w.sign(0, -1, 0));
        Due.outside("sign column 5 of stop", () -> w.sign(0, 5, 0));
        Due.illegal("sign code 31", () -> w.sign(0, 4, 31));
        Due.illegal("sign code 127", () -> w.sign(0, 4, 127));
        Due.outside("rub line 120", () -> w.rub(120, 0));
        Due.outside("rub column 4 of stop", () -> w.rub(0, 4));
        Due.outside("rub column -1", () -> w.rub(0, -1));
        Due.outside("cut -1", () -> w.cut(-1));
        Due.outside("cut 120", () -> w.cut(120));
        Due.outside("move from 120", () -> w.move(120, 0));
        Due.outside("move to 120", () -> w.move(0, 120));
        Due.outside("move from -1", () -> w.move(-1, 0));
        Due.same("text after refusals", "stop", w.text(0));
        w.cut(119);
        Due.same("put the 120th at the front", 120, w.put(0, 1, 0, 0, 0, 0));
        Due.same("the first", "a:", w.text(0));
        Due.same("the last", "stop", w.text(119));
        full();
    }

    private static void full() {
        Twopassworks w = Due.source("a: byte 1");
        for (int i = 9; i < 79; i++) {
            w.sign(0, i, ' ');
        }
        Due.same("remark at 79", 84, w.remark(0, 99));
        Due.tooEarly("remark at 84", () -> w.remark(0, 0));
        Due.illegal("wrong remark at 84", () -> w.remark(0, 100));
        Due.tooEarly("sign at 84", () -> w.sign(0, 0, 32));
        Due.illegal("wrong sign at 84", () -> w.sign(0, 0, 31));
        Due.outside("sign outside at 84", () -> w.sign(0, 85, 31));
        for (int i = 0; i < 4; i++) {
            w.rub(0, 20);
        }
        Due.same("80 signs", 80, w.length(0));
        Due.tooEarly("remark at 80", () -> w.remark(0, 0));
        Due.tooEarly("sign at 80", () -> w.sign(0, 80, 32));
        w.rub(0, 20);
        Due.same("sign at 79", 80, w.sign(0, 79, 126));
    }

    private static void reading() {
        Twopassworks w = Due.source("a: byte 1");
        Due.outside("length(1)", () -> w.length(1));
        Due.outside("length(-1)", () -> w.length(-1));
        Due.outside("signAt(0, 9)", () -> w.signAt(0, 9));
        Due.outside("signAt(0, -1)", () -> w.signAt(0, -1));
        Due.outside("signAt(1, 0)", () -> w.signAt(1, 0));
        Due.outside("text(1)", () -> w.text(1));
        Due.outside("text(-1)", () -> w.text(-1));
        Due.outside("form(1)", () -> w.form(1));
        Due.outside("form(-1)", () -> w.form(-1));
        Due.outside("token(1, 0, 0)", () -> w.token(1, 0, 0));
        Due.outside("token(0, 4, 9)", () -> w.token(0, 4, 9));
        Due.outside("token(0, -1, 9)", () -> w.token(0, -1, 9));
        Due.illegal("token(0, 0, 4)", () -> w.token(0, 0, 4));
        Due.illegal("token(0, 0, -1)", () -> w.token(0, 0, -1));
        Due.outside("tokens(1)", () -> w.tokens(1));
        Due.outside("tokens(-1)", () -> w.tokens(-1));
        Due.illegal("fault(3)", () -> w.fault(3));
        Due.illegal("fault(-1)", () -> w.fault(-1));
        w.sign(0, 0, '!');
        Due.outside("token of an ILL line", () -> w.token(0, 0, 0));
    }

    private static void beforeAnImage() {
        Twopassworks w = Due.source("?");
        Due.same("assemble()", 1, w.assemble());
        Due.tooEarly("flatLines()", () -> w.flatLines());
        Due.tooEarly("flat", () -> w.flat(-1));
        Due.tooEarly("ofFlat", () -> w.ofFlat(-1, -1));
        Due.tooEarly("row", () -> w.row(-1));
        Due.tooEarly("image", () -> w.image(-1));
        Due.tooEarly("byteAt", () -> w.byteAt(-1));
        Due.tooEarly("part", () -> w.part(-1, -1));
        Due.tooEarly("symbol", () -> w.symbol(-1));
        Due.tooEarly("ofSymbol", () -> w.ofSymbol(-1, -1));
        Due.tooEarly("use", () -> w.use(-1, -1));
        Due.tooEarly("moves", () -> w.moves(-2));
        Due.tooEarly("ofMove", () -> w.ofMove(-1, -1));
        Due.tooEarly("literal", () -> w.literal(-1, -1, -1));
        Due.tooEarly("jumps", () -> w.jumps(-1));
        Due.tooEarly("reach", () -> w.reach(-1));
        Due.tooEarly("changed", () -> w.changed(-1));
        Due.tooEarly("mayChangePlaces", () -> w.mayChangePlaces(-1));
        Due.tooEarly("value", () -> w.value(0, -1, -1, -1));
        Due.same("isSound()", true, w.isSound());
    }

    private static void behindAnImage() {
        Twopassworks w = Due.assembled("a: jump a", "load =7", "part 1", "byte 1");
        Due.outside("flat(4)", () -> w.flat(4));
        Due.outside("flat(-1)", () -> w.flat(-1));
        Due.outside("ofFlat(4, 12)", () -> w.ofFlat(4, 12));
        Due.outside("ofFlat(-1, 0)", () -> w.ofFlat(-1, 0));
        Due.illegal("ofFlat(0, 12)", () -> w.ofFlat(0, 12));
        Due.illegal("ofFlat(0, -1)", () -> w.ofFlat(0, -1));
        Due.outside("row(4)", () -> w.row(4));
        Due.outside("row(-1)", () -> w.row(-1));
        Due.illegal("image(10)", () -> w.image(10));
        Due.illegal("image(-1)", () -> w.image(-1));
        Due.illegal("byteAt(-1)", () -> w.byteAt(-1));
        Due.illegal("byteAt(65536)", () -> w.byteAt(65536));
        Due.same("byteAt(65535)", -1, w.byteAt(65535));
        Due.outside("part(4, 9)", () -> w.part(4, 9));
        Due.outside("part(-1, 0)", () -> w.part(-1, 0));
        Due.illegal("part(0, 6)", () -> w.part(0, 6));
        Due.illegal("part(0, -1)", () -> w.part(0, -1));
        Due.outside("symbol(1)", () -> w.symbol(1));
        Due.outside("symbol(-1)", () -> w.symbol(-1));
        Due.outside("ofSymbol(1, 9)", () -> w.ofSymbol(1, 9));
        Due.illegal("ofSymbol(0, 7)", () -> w.ofSymbol(0, 7));
        Due.illegal("ofSymbol(0, -1)", () -> w.ofSymbol(0, -1));
        Due.outside("use(1, 0)", () -> w.use(1, 0));
        Due.outside("use(0, 1)", () -> w.use(0, 1));
        Due.outside("use(0, -1)", () -> w.use(0, -1));
        Due.illegal("moves(-2)", () -> w.moves(-2));
        Due.illegal("moves(201)", () -> w.moves(201));
        Due.same("moves(200)", 0, w.moves(200));
        Due.outside("ofMove(1, 9)", () -> w.ofMove(1, 9));
        Due.outside("ofMove(-1, 0)", () -> w.ofMove(-1, 0));
        Due.illegal("ofMove(0, 4)", () -> w.ofMove(0, 4));
        Due.illegal("ofMove(0, -1)", () -> w.ofMove(0, -1));
        Due.outside("literal(4, 0, 9)", () -> w.literal(4, 0, 9));
        Due.outside("literal(0, 1, 9)", () -> w.literal(0, 1, 9));
        Due.outside("literal(1, 0, 0)", () -> w.literal(1, 0, 0));
        Due.outside("literal(0, -1, 0)", () -> w.literal(0, -1, 0));
        Due.illegal("literal(0, 0, 3)", () -> w.literal(0, 0, 3));
        Due.illegal("literal(0, 0, -1)", () -> w.literal(0, 0, -1));
        Due.illegal("jumps(5)", () -> w.jumps(5));
        Due.illegal("jumps(-1)", () -> w.jumps(-1));
        Due.outside("reach(4)", () -> w.reach(4));
        Due.outside("reach(-1)", () -> w.reach(-1));
        Due.illegal("reach(1)", () -> w.reach(1));
        Due.illegal("changed(3)", () -> w.changed(3));
        Due.illegal("changed(-1)", () -> w.changed(-1));
        Due.outside("mayChangePlaces(1)", () -> w.mayChangePlaces(1));
        Due.outside("mayChangePlaces(-1)", () -> w.mayChangePlaces(-1));
        for (int shape : new int[] {-1, 0, 2, 9, 10}) {
            Due.illegal("value shape " + shape, () -> w.value(shape, 0, 0, 0));
        }
        Due.illegal("value x", () -> w.value(1, 1026, 0, 0));
        Due.illegal("value y", () -> w.value(1, 0, 1026, 0));
        Due.illegal("value what 3", () -> w.value(1, 0, 0, 3));
        Due.illegal("value what -1", () -> w.value(1, 0, 0, -1));
    }

    private static void trial() {
        Twopassworks w = Due.source("byte 1");
        Due.outside("trial(1) with a wrong label", () -> w.trial(1, 53, 0, 0, 0, 0));
        Due.outside("trial(-1)", () -> w.trial(-1, 0, 0, 0, 0, 0));
        Due.illegal("trial label", () -> w.trial(0, 53, 0, 0, 0, 0));
        Due.illegal("trial order", () -> w.trial(0, 0, 20, 0, 0, 0));
        Due.illegal("trial shape", () -> w.trial(0, 0, 0, 11, 0, 0));
        Due.illegal("trial x", () -> w.trial(0, 0, 0, 0, 1200, 0));
        Due.illegal("trial y", () -> w.trial(0, 0, 0, 1, 0, 1200));
        Due.same("trial", 1, w.trial(0, 0, 1, 1, 2, 0));
    }
}
