import java.util.Arrays;
import java.util.List;
import java.util.Random;

/** Some thousand made sources, assembled, asked and changed by the program and by Plain: both answer the same. */
public final class PlainTest {
    private static final int SOURCES = 800;
    private static final int ROUNDS = 3;
    private static final int[] SHAPES = {1, 3, 4, 5, 6, 7, 8};

    private final Random random;
    private final Twopassworks works = new Twopassworks();
    private final Plain plain = new Plain();
    private final String name;

    private PlainTest(long seed) {
        random = new Random(seed);
        name = "source " + seed;
        for (String text : MadeSources.of(seed)) {
            Due.line(works, works.lines(), text);
            plain.lines.add(text);
        }
    }

    public static void main(String[] args) {
        long from = args.length > 0 ? Long.parseLong(args[0]) : 0;
        long count = args.length > 1 ? Long.parseLong(args[1]) : SOURCES;
        for (long seed = from; seed < from + count; seed++) {
            new PlainTest(seed).run();
        }
        Due.end();
    }

    private void same(String what, Object want, Object got) {
        Due.same(what + " of " + name, want, got);
    }

    private void run() {
        for (int round = 0; round < ROUNDS; round++) {
            same("assemble()", plain.assemble(), works.assemble());
            all();
            if (plain.image != null) {
                image();
                values();
            }
            for (int i = 0; i < 2 && plain.lines.size() > 0; i++) {
                trial();
            }
            all();
            tokens();
            change();
            all();
        }
    }

    private void all() {
        same("FAULT", Arrays.toString(plain.fault),
            Arrays.toString(new int[] {works.fault(0), works.fault(1), works.fault(2)}));
        same("lines()", plain.lines.size(), works.lines());
        for (int i = 0; i < works.lines(); i++) {
            same("text " + i, plain.lines.get(i), works.text(i));
        }
        same("digest()", plain.digest(), works.digest());
    }

    private void image() {
        Plain.Work image = plain.image;
        for (int i = 0; i < image.stretches().size() - 1; i++) {
            same("mayChangePlaces " + i, image.mayChange(i), works.mayChangePlaces(i));
        }
        for (int i = 0; i < image.flats.size(); i++) {
            same("flat " + i, Plain.formOf(image.flats.get(i).row.toks), works.flat(i));
            if (image.flats.get(i).shortable) {
                same("reach " + i, image.reachAlone(i), works.reach(i));
            }
        }
        for (int base = -1; base < 40; base++) {
            int its = base;
            long count = image.moves.values().stream().filter(move -> move[1] == its).count();
            same("moves " + base, count, works.moves(base));
        }
    }

    private int atom() {
        switch (random.nextInt(6)) {
            case 0:
                return random.nextInt(1000);
            case 1:
            case 2:
                return 1000 + random.nextInt(12);
            case 3:
                return new int[] {1123, 1124, 1201, 1300, 2000 + random.nextInt(256)}[random.nextInt(5)];
            case 4:
                return 1010 + random.nextInt(2);
            default:
                return random.nextInt(20);
        }
    }

    private static String lineOf(int label, int order, int shape, int x, int y) {
        Twopassworks one = new Twopassworks();
        one.put(0, label, order, shape, x, y);
        return one.text(0);
    }

    private void values() {
        for (int i = 0; i < 12; i++) {
            int shape = SHAPES[random.nextInt(SHAPES.length)];
            int x = atom();
            int y = atom();
            String text = lineOf(0, 0, shape, x, y);
            int[] due = plain.value(text);
            for (int what = 0; what < 3; what++) {
                same("value " + text + " " + what, due[what], works.value(shape, x, y, what));
            }
        }
    }

    private void trial() {
        int at = random.nextInt(plain.lines.size());
        int label = random.nextInt(10) < 7 ? 0 : random.nextInt(53);
        int order = random.nextInt(10) < 8 ? random.nextInt(15) : random.nextInt(20);
        int shape = random.nextInt(11);
        int x = atom();
        int y = atom();
        String text = lineOf(label, order, shape, x, y);
        same("trial of " + text + " at " + at, plain.trial(at, text), works.trial(at, label, order, shape, x, y));
    }

    private void tokens() {
        for (int i = 0; i < plain.lines.size(); i++) {
            int count = Plain.tokens(plain.lines.get(i));
            same("tokens " + i, count, works.tokens(i));
            if (count <= 0) {
                continue;
            }
            List<Plain.Tok> due = Plain.read(plain.lines.get(i), 0);
            for (int place = 0; place < count; place++) {
                Plain.Tok token = due.get(place);
                int worth = token.kind == 4 || token.kind == 5 ? token.worth : 0;
                int[] facts = {token.kind, Plain.form(due, place), token.text.length(), worth};
                for (int what = 0; what < 4; what++) {
                    same("token " + i + " " + place + " " + what, facts[what], works.token(i, place, what));
                }
            }
        }
    }

    private void change() {
        int count = plain.lines.size();
        switch (count > 0 ? random.nextInt(4) : 0) {
            case 0:
                same("flatten()", plain.flatten(), works.flatten());
                break;
            case 1:
                same("tidy()", plain.tidy(), works.tidy());
                break;
            case 2:
                int from = random.nextInt(count);
                int to = random.nextInt(count);
                same("move()", Math.abs(from - to), works.move(from, to));
                plain.lines.add(to, plain.lines.remove(from));
                break;
            default:
                int at = random.nextInt(count);
                same("cut()", count - 1, works.cut(at));
                plain.lines.remove(at);
                break;
        }
    }
}
