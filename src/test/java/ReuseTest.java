import java.util.ArrayList;
import java.util.List;
import java.util.Random;

/**
 * One object is brought many made sources, one after the other (of macros, repeats and conditions inside each other,
 * many with a fault in the middle of a BODY): each is answered as by an object that has seen no other one. The same
 * number brings the same sources.
 */
public final class ReuseTest {
    private static final int RUNS = 400;
    private static final int MOST_CALLS = 512;
    private static final int CALLS_OF_A_SOURCE = 60;

    private final Random random;
    private final String name;
    private final Twopassworks works = new Twopassworks();
    private int calls;
    private final List<int[]> lines = new ArrayList<>();

    private ReuseTest(long seed) {
        random = new Random(seed);
        name = " of run " + seed;
    }

    public static void main(String[] args) {
        long from = args.length > 0 ? Long.parseLong(args[0]) : 0;
        long count = args.length > 1 ? Long.parseLong(args[1]) : RUNS;
        for (long seed = from; seed < from + count; seed++) {
            new ReuseTest(seed).run();
        }
        Due.end();
    }

    private int below(int bound) {
        return random.nextInt(bound);
    }

    private int atom() {
        int[] atoms = {1, 2, 5, 1200 + 1 + below(3), 1000 + below(3), 1100 + below(3), 1201};
        return atoms[below(atoms.length)];
    }

    /** A line with one label or none, an order, a SHAPE. */
    private void add(int label, int order, int shape, int x, int y) {
        lines.add(new int[] {label, order, shape, x, y});
    }

    private void addRow() {
        int label = below(4) == 0 ? 1 + below(3) : below(4) == 0 ? 27 + below(3) : 0;
        int[] orders = {1, 2, 4, 6, 7, 8, 14, 0, 105, 106};
        int order = orders[below(orders.length)];
        int[] shapes = {1, 1, 1, 3, 2};
        int shape = order == 0 || order == 7 ? 0 : shapes[below(shapes.length)];
        add(order == 8 ? 1 + below(3) : order == 14 ? 0 : label, order, shape, atom(), atom());
    }

    private void addRows(int depth) {
        for (int i = below(3); i >= 0; i--) {
            int kind = depth < 3 ? below(7) : 6;
            if (kind == 0) {
                add(5 + below(2), 15, 0, 0, 0);
            } else if (kind == 1 || kind == 2) {
                add(0, 17, 1, below(3) == 0 ? 3 : 1, 0);
            } else if (kind == 3) {
                add(0, 18, 1, below(2), 0);
            } else {
                addRow();
                continue;
            }
            addRows(depth + 1);
            if (kind == 3 && below(2) == 0) {
                add(0, 19, 0, 0, 0);
                addRows(depth + 1);
            }
            add(0, below(20) == 0 ? 7 : 16, 0, 0, 0);
        }
    }

    private void run() {
        while (calls < MOST_CALLS - CALLS_OF_A_SOURCE) {
            lines.clear();
            while (lines.size() < 4 || lines.size() > 14) {
                lines.clear();
                addRows(0);
            }
            bring();
        }
    }

    private void bring() {
        Twopassworks fresh = new Twopassworks();
        works.clear();
        for (int[] line : lines) {
            works.put(works.lines(), line[0], line[1], line[2], line[3], line[4]);
            fresh.put(fresh.lines(), line[0], line[1], line[2], line[3], line[4]);
        }
        calls += 1 + 2 * lines.size();
        if (below(2) == 0) {
            int at = below(lines.size());
            int[] line = lines.get(below(lines.size()));
            Due.same("trial()" + name, fresh.trial(at, line[0], line[1], line[2], line[3], line[4]),
                works.trial(at, line[0], line[1], line[2], line[3], line[4]));
            calls++;
        }
        // Twice, so that the OLD IMAGE is of the same source.
        for (int times = 0; times < 2; times++) {
            Due.same("assemble()" + name, fresh.assemble(), works.assemble());
            for (int what = 0; what <= 2; what++) {
                Due.same("fault()" + name, fresh.fault(what), works.fault(what));
            }
            calls += 4;
        }
        if (fresh.fault(0) == 0) {
            Due.same("digest()" + name, fresh.digest(), works.digest());
            calls++;
        }
        Due.same("flatten()" + name, fresh.flatten(), works.flatten());
        Due.same("lines()" + name, fresh.lines(), works.lines());
        calls += 2;
        for (int i = 0; i < 3 && i < fresh.lines(); i++) {
            Due.same("text()" + name, fresh.text(i), works.text(i));
            calls++;
        }
    }
}
