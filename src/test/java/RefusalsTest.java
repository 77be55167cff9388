import java.util.ArrayList;
import java.util.List;

/**
 * Each exception of each promise: that it is thrown just where the document says, that of several the one that is named
 * first is thrown, and that nothing has changed then. Each method is called with all the values together that stand at,
 * inside and outside of the bounds of each of its arguments, in several states.
 */
public final class RefusalsTest {
    private static final Class<IndexOutOfBoundsException> OUTSIDE = IndexOutOfBoundsException.class;
    private static final Class<IllegalArgumentException> ILLEGAL = IllegalArgumentException.class;
    private static final Class<IllegalStateException> STATE = IllegalStateException.class;

    interface Numbers {
        Object run(int[] a);
    }

    interface Verdict {
        Class<? extends RuntimeException> of(int[] a);
    }

    private static Twopassworks w;
    private static boolean made;
    private static boolean changes;

    public static void main(String[] args) {
        for (int state = 0; state < 7; state++) {
            begin(state);
            Due.same("whether there is an IMAGE in state " + state, state >= 3, made);
            source();
            signs();
            order();
            texts();
            flatLines();
            places();
            symbols();
            moves();
            jumps();
            whatWouldBe();
        }
        Due.end();
    }

    /** Makes the assembler that is asked: three states without an IMAGE, then four with one. */
    private static void begin(int state) {
        made = state >= 3;
        switch (state) {
            case 0:
                w = new Twopassworks();
                break;
            case 1:
                w = Due.source("a: byte 1", "foo", "!", "");
                w.assemble();
                break;
            case 2:
                w = Due.source("x".repeat(79), "y".repeat(80), "z".repeat(79));
                w.remark(2, 99);
                w.flatten();
                break;
            case 3:
                w = Due.assembled();
                break;
            case 4:
                w = Due.assembled("a: jump a", "load =7", "part 1", "byte 1");
                w.put(0, 1, 101, 1, 1201, 0);
                w.assemble();
                break;
            case 5:
                w = Due.assembled("want v", "weak u", "m: macro", "@x: word @x,v", "end", "m", "part 2", "call v",
                    "b: jump b", "jump 5", "load =b", "load =9", "part 3", "load =u", "room 9");
                w.assemble();
                w.clear();
                w.put(0, 0, 7, 0, 0, 0);
                break;
            default:
                full();
                break;
        }
    }

    private static void full() {
        w = Due.source("a: jump a");
        for (int i = 1; i < 120; i++) {
            w.put(i, 0, i % 2 == 0 ? 7 : 1, i % 2, 5, 0);
        }
        w.assemble();
        w.move(119, 0);
        w.assemble();
    }

    private static int[] around(int count) {
        return new int[] {Integer.MIN_VALUE, -1, 0, 1, count - 1, count, count + 1, Integer.MAX_VALUE};
    }

    private static boolean in(int number, int least, int most) {
        return number >= least && number <= most;
    }

    private static boolean isAtom(int x) {
        return in(x, 0, 999) || in(x, 1000, 1025) || in(x, 1100, 1125) || in(x, 1201, 1203) || x == 1300
            || in(x, 2000, 2255);
    }

    /** Calls a method that changes something with all values together, but only where it is refused. */
    private static void changing(String name, Numbers call, Verdict verdict, int[]... values) {
        changes = true;
        all(name, call, verdict, values);
        changes = false;
    }

    /** Calls a method with all values together. */
    private static void all(String name, Numbers call, Verdict verdict, int[]... values) {
        String before = State.of(w);
        int[] a = new int[values.length];
        int[] at = new int[values.length];
        boolean more = true;
        while (more) {
            for (int i = 0; i < a.length; i++) {
                a[i] = values[i][at[i]];
            }
            one(name, call, verdict, a.clone(), before);
            more = false;
            for (int i = a.length - 1; i >= 0 && !more; i--) {
                at[i]++;
                more = at[i] < values[i].length;
                at[i] = more ? at[i] : 0;
            }
        }
        Due.same("what has changed by calls of " + name, before, State.of(w));
    }

    private static void one(String name, Numbers call, Verdict verdict, int[] a, String before) {
        String what = name + java.util.Arrays.toString(a);
        Class<? extends RuntimeException> due = verdict.of(a);
        if (due != null) {
            Due.refuses(what, due, () -> call.run(a));
            if (changes && a.length < 3) {
                Due.same("what has changed by " + what, before, State.of(w));
            }
        } else if (!changes) {
            String got = "an answer";
            try {
                call.run(a);
            } catch (RuntimeException e) {
                got = e.getClass().getSimpleName();
            }
            Due.same(what, "an answer", got);
        }
    }

    private static Class<? extends RuntimeException> first(boolean outside, boolean illegal, boolean state) {
        return outside ? OUTSIDE : illegal ? ILLEGAL : state ? STATE : null;
    }

    private static Class<? extends RuntimeException> withImage(boolean outside, boolean illegal) {
        return made ? first(outside, illegal, false) : STATE;
    }

    private static boolean isLine(int[] a) {
        return in(a[1], 0, 52) && (in(a[2], 0, 19) || in(a[2], 101, 126)) && in(a[3], 0, 10) && isAtom(a[4])
            && isAtom(a[5]);
    }

    /** Promises 2 and 3. */
    private static void source() {
        int count = w.lines();
        changing("put", a -> w.put(a[0], a[1], a[2], a[3], a[4], a[5]),
            a -> first(!in(a[0], 0, count), !isLine(a), count >= 120),
            new int[] {-1, 0, count, count + 1}, new int[] {-1, 0, 52, 53}, new int[] {-1, 19, 20, 100, 101, 126, 127},
            new int[] {-1, 0, 10, 11}, new int[] {-1, 0, 1026, 2255}, new int[] {0, 1099, 1300, 2256});
        changing("remark", a -> w.remark(a[0], a[1]),
            a -> first(!in(a[0], 0, count - 1), !in(a[1], 0, 99), in(a[0], 0, count - 1) && w.length(a[0]) >= 80),
            around(count), new int[] {Integer.MIN_VALUE, -1, 0, 99, 100, Integer.MAX_VALUE});
    }

    /** Promises 4 and 5. */
    private static void signs() {
        int count = w.lines();
        int[] columns = {Integer.MIN_VALUE, -1, 0, 4, 5, 9, 10, 79, 80, 81, 84, 85, Integer.MAX_VALUE};
        changing("sign", a -> w.sign(a[0], a[1], a[2]),
            a -> first(!in(a[0], 0, count - 1) || !in(a[1], 0, w.length(a[0])), !in(a[2], 32, 126),
                in(a[0], 0, count - 1) && w.length(a[0]) >= 80),
            around(count), columns, new int[] {Integer.MIN_VALUE, -1, 0, 31, 32, 126, 127, Integer.MAX_VALUE});
        changing("rub", a -> w.rub(a[0], a[1]),
            a -> first(!in(a[0], 0, count - 1) || !in(a[1], 0, w.length(a[0]) - 1), false, false),
            around(count), columns);
        all("signAt", a -> w.signAt(a[0], a[1]),
            a -> first(!in(a[0], 0, count - 1) || !in(a[1], 0, w.length(a[0]) - 1), false, false),
            around(count), columns);
    }

    /** Promises 6 and 7. */
    private static void order() {
        int count = w.lines();
        changing("cut", a -> w.cut(a[0]), a -> first(!in(a[0], 0, count - 1), false, false), around(count));
        changing("move", a -> w.move(a[0], a[1]),
            a -> first(!in(a[0], 0, count - 1) || !in(a[1], 0, count - 1), false, false), around(count), around(count));
    }

    /** Promises 14 and 16 to 20. */
    private static void texts() {
        int count = w.lines();
        Verdict line = a -> first(!in(a[0], 0, count - 1), false, false);
        all("length", a -> w.length(a[0]), line, around(count));
        all("text", a -> w.text(a[0]), line, around(count));
        all("form", a -> w.form(a[0]), line, around(count));
        all("tokens", a -> w.tokens(a[0]), line, around(count));
        all("token", a -> w.token(a[0], a[1], a[2]),
            a -> first(!in(a[0], 0, count - 1) || !in(a[1], 0, w.tokens(a[0]) - 1), !in(a[2], 0, 3), false),
            around(count), new int[] {Integer.MIN_VALUE, -1, 0, 1, 2, 3, 4, 5, Integer.MAX_VALUE},
            new int[] {Integer.MIN_VALUE, -1, 0, 3, 4, Integer.MAX_VALUE});
        all("fault", a -> w.fault(a[0]), a -> first(false, !in(a[0], 0, 2), false),
            new int[] {Integer.MIN_VALUE, -1, 0, 1, 2, 3, Integer.MAX_VALUE});
    }

    /** Promises 21 to 24. */
    private static void flatLines() {
        int count = made ? w.flatLines() : 0;
        all("flatLines", a -> w.flatLines(), a -> withImage(false, false), new int[] {0});
        all("flat", a -> w.flat(a[0]), a -> withImage(!in(a[0], 0, count - 1), false), around(count));
        all("row", a -> w.row(a[0]), a -> withImage(!in(a[0], 0, count - 1), false), around(count));
        all("ofFlat", a -> w.ofFlat(a[0], a[1]), a -> withImage(!in(a[0], 0, count - 1), !in(a[1], 0, 11)),
            around(count), around(12));
    }

    /** Promises 25 to 27 and 33. */
    private static void places() {
        all("image", a -> w.image(a[0]), a -> withImage(false, !in(a[0], 0, 9)), around(10));
        all("byteAt", a -> w.byteAt(a[0]), a -> withImage(false, !in(a[0], 0, 65535)), around(65536));
        all("part", a -> w.part(a[0], a[1]), a -> withImage(!in(a[0], 0, 3), !in(a[1], 0, 5)), around(4), around(6));
        all("literal", a -> w.literal(a[0], a[1], a[2]),
            a -> withImage(!in(a[0], 0, 3) || made && !in(a[1], 0, w.part(a[0], 5) - 1), !in(a[2], 0, 2)),
            new int[] {Integer.MIN_VALUE, -1, 0, 1, 2, 3, 4, 5, Integer.MAX_VALUE}, around(2), around(3));
    }

    /** Promises 28 to 30. */
    private static void symbols() {
        int count = made ? w.image(5) : 0;
        all("symbol", a -> w.symbol(a[0]), a -> withImage(!in(a[0], 0, count - 1), false), around(count));
        all("ofSymbol", a -> w.ofSymbol(a[0], a[1]), a -> withImage(!in(a[0], 0, count - 1), !in(a[1], 0, 6)),
            around(count), around(7));
        all("use", a -> w.use(a[0], a[1]),
            a -> withImage(!in(a[0], 0, count - 1) || !in(a[1], 0, w.ofSymbol(a[0], 4) - 1), false),
            around(count), new int[] {Integer.MIN_VALUE, -1, 0, 1, 2, 3, 4, 5, 119, 120, Integer.MAX_VALUE});
    }

    /** Promises 31 and 32. */
    private static void moves() {
        int count = made ? w.image(4) : 0;
        all("moves", a -> w.moves(a[0]), a -> withImage(false, !in(a[0], -1, 200)),
            new int[] {Integer.MIN_VALUE, -2, -1, 0, 3, 4, 9, 10, 199, 200, 201, Integer.MAX_VALUE});
        all("ofMove", a -> w.ofMove(a[0], a[1]), a -> withImage(!in(a[0], 0, count - 1), !in(a[1], 0, 3)),
            around(count), around(4));
    }

    /** Promises 34 to 37. */
    private static void jumps() {
        int count = made ? w.flatLines() : 0;
        int stretches = made ? w.image(9) : 0;
        all("jumps", a -> w.jumps(a[0]), a -> withImage(false, !in(a[0], 0, 4)), around(5));
        List<Integer> flats = new ArrayList<>();
        for (int at : around(count)) {
            flats.add(at);
        }
        for (int at = 0; at < count; at++) {
            flats.add(at);
        }
        all("reach", a -> w.reach(a[0]),
            a -> withImage(!in(a[0], 0, count - 1), in(a[0], 0, count - 1) && w.ofFlat(a[0], 8) == 0),
            flats.stream().mapToInt(Integer::intValue).toArray());
        all("changed", a -> w.changed(a[0]), a -> withImage(false, !in(a[0], 0, 2)), around(3));
        all("mayChangePlaces", a -> w.mayChangePlaces(a[0]), a -> withImage(!in(a[0], 0, stretches - 2), false),
            new int[] {Integer.MIN_VALUE, -1, 0, 1, stretches - 2, stretches - 1, stretches, Integer.MAX_VALUE});
    }

    /** Promises 38 and 39. */
    private static void whatWouldBe() {
        int count = w.lines();
        all("trial", a -> w.trial(a[0], a[1], a[2], a[3], a[4], a[5]),
            a -> first(!in(a[0], 0, count - 1), !isLine(a), false),
            new int[] {-1, 0, count - 1, count}, new int[] {-1, 0, 53}, new int[] {-1, 7, 20, 100, 127},
            new int[] {-1, 1, 11}, new int[] {-1, 0, 1026, 2256}, new int[] {0, 1099, 2256});
        all("value", a -> w.value(a[0], a[1], a[2], a[3]),
            a -> withImage(false, !(a[0] == 1 || in(a[0], 3, 8)) || !isAtom(a[1]) || !isAtom(a[2])
                || !in(a[3], 0, 2)),
            new int[] {Integer.MIN_VALUE, -1, 0, 1, 2, 3, 8, 9, 10, 11, Integer.MAX_VALUE},
            new int[] {-1, 0, 999, 1000, 1026, 1201, 1300, 2255, 2256}, new int[] {-1, 0, 1125, 1126, 2256}, around(3));
    }
}
