import java.util.ArrayList;
import java.util.List;
import java.util.Random;
import java.util.TreeMap;

/**
 * Long NAMES that are put together in unlike ways from the same parts, and lose signs here and there: they are the
 * same NAME, and stand in order, by their signs alone. The same number always brings the same NAMES.
 */
public final class NamesTest {
    private static final int RUNS = 150;
    private static final int MOST_LINES = 14;
    private static final String[] SIGNS = {"a", "b", "z", "ab", "cd", "ef", "ab0", "xyz", "g_", "n7",
        "nopqrstuvwxyz0123456789_"};

    private final Random random;
    private final String run;
    private final String signs;
    private final int longest;
    private final Twopassworks works = new Twopassworks();
    // Each line is "word" and a NAME.
    private final List<String> names = new ArrayList<>();

    private NamesTest(long seed) {
        random = new Random(seed);
        run = " of run " + seed;
        signs = SIGNS[below(SIGNS.length)];
        longest = 200 << below(12);
    }

    public static void main(String[] args) {
        long from = args.length > 0 ? Long.parseLong(args[0]) : 0;
        long count = args.length > 1 ? Long.parseLong(args[1]) : RUNS;
        for (long seed = from; seed < from + count; seed++) {
            new NamesTest(seed).run();
        }
        Due.end();
    }

    private int below(int bound) {
        return random.nextInt(bound);
    }

    private String some(int most) {
        StringBuilder text = new StringBuilder(signs.substring(0, 1));
        for (int i = below(most); i > 0; i--) {
            text.append(signs.charAt(below(signs.length())));
        }
        return text.toString();
    }

    private void run() {
        String first = some(20);
        Due.line(works, 0, "word " + first);
        names.add(first);
        for (int step = 0; step < 60 && longestNow() < longest; step++) {
            grow(below(3) == 0 ? below(names.size()) : longestAt());
        }
        for (int i = below(2) * below(20); i > 0; i--) {
            int at = below(names.size());
            String text = names.get(at);
            int column = below(3) == 0 ? text.length() / 2 : below(text.length());
            boolean all = below(2) == 0;
            for (int other = 0; other < names.size(); other++) {
                if (other == at || all && names.get(other).equals(text)) {
                    lose(other, all ? column : below(text.length()));
                }
            }
        }
        for (int i = 0; i < names.size(); i++) {
            Due.same("length" + run, 5 + names.get(i).length(), works.length(i));
            Due.same("tokens" + run, 2, works.tokens(i));
        }
        Due.same("tidy()" + run, 0, works.tidy());
        settle();
    }

    private int longestAt() {
        int found = 0;
        for (int i = 0; i < names.size(); i++) {
            found = names.get(i).length() > names.get(found).length() ? i : found;
        }
        return found;
    }

    private int longestNow() {
        return names.get(longestAt()).length();
    }

    /** A macro makes one or two lines of one, in which its NAME stands some times. */
    private void grow(int at) {
        int rows = names.size() < MOST_LINES ? 1 + below(2) : 1;
        List<List<String>> made = new ArrayList<>();
        List<String> parts = new ArrayList<>();
        for (int i = 0; i < 3; i++) {
            works.rub(at, 0);
        }
        Due.line(works, 0, "d: macro");
        for (int row = 0; row < rows; row++) {
            if (row == 0 || below(3) == 0) {
                parts = new ArrayList<>();
                for (int i = 1 + below(6); i > 0; i--) {
                    parts.add(below(3) > 0 ? "%1" : some(6));
                }
            }
            Due.line(works, 1 + row, "word " + String.join("+", parts));
            List<String> written = new ArrayList<>();
            for (String part : parts) {
                written.add(part.equals("%1") ? names.get(at) : part);
            }
            made.add(written);
        }
        works.put(1 + rows, 0, 16, 0, 0, 0);
        Due.same("flatten()" + run, 0, works.flatten());
        names.remove(at);
        // what is joined ahead of flatten() is a part of what is joined behind it
        for (int row = 0; row < rows; row++) {
            join(at + row, made.get(row), below(made.get(row).size()));
        }
        Due.same("flatten()" + run, 0, works.flatten());
        for (int row = 0; row < rows; row++) {
            join(at + row, made.get(row), made.get(row).size());
            names.add(at + row, made.get(row).get(0));
        }
    }

    /** Takes some of the "+" between the parts out, in any order. */
    private void join(int at, List<String> parts, int times) {
        for (int left = times; left > 0 && parts.size() > 1; left--) {
            int place = below(parts.size() - 1);
            int column = 5 + place;
            for (int i = 0; i <= place; i++) {
                column += parts.get(i).length();
            }
            Due.same("rub()" + run, (int) '+', works.rub(at, column));
            parts.set(place, parts.get(place) + parts.remove(place + 1));
        }
    }

    private void lose(int at, int column) {
        String text = names.get(at);
        if (column > 0) {
            Due.same("rub()" + run, (int) text.charAt(column), works.rub(at, 5 + column));
            names.set(at, text.substring(0, column) + text.substring(column + 1));
        }
    }

    /** Each NAME gets a weak mark; the SYMBOLS are then all NAMES, once each and in order. */
    private void settle() {
        TreeMap<String, Integer> due = new TreeMap<>();
        for (int i = 0; i < names.size(); i++) {
            due.putIfAbsent(names.get(i), i);
            for (int times = 0; times < 3; times++) {
                works.rub(i, 0);
            }
        }
        Due.line(works, 0, "d: macro");
        Due.line(works, 1, "weak %1");
        Due.line(works, 2, "end");
        Due.same("assemble()" + run, 0, works.assemble());
        Due.same("SYMBOLS" + run, due.size(), works.image(5));
        int at = 0;
        for (String text : due.keySet()) {
            Due.same("SYMBOL " + at + run, true, text.equals(works.symbol(at)));
            Due.same("its FLAT line" + run, due.get(text), works.ofSymbol(at, 3));
            at++;
        }
        Due.same("digest()" + run, Digest.of(works), works.digest());
    }
}
