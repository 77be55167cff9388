import java.math.BigInteger;
import java.util.ArrayList;
import java.util.List;

/** The checksum of promise 41, from what the other methods answer. */
final class Digest {
    private final List<Long> all = new ArrayList<>();

    private Digest() {
    }

    private void add(long v) {
        all.add(v);
    }

    private void add(String text) {
        for (int i = 0; i < text.length(); i++) {
            add(text.charAt(i));
        }
    }

    static long of(Twopassworks w) {
        long d = 6401;
        for (long v : from(w).all) {
            d = d * 31 + v;
        }
        return d;
    }

    /** The same with numbers that have no bound, of which the lowest 64 bits are taken at last. */
    static BigInteger unbounded(Twopassworks w) {
        BigInteger d = BigInteger.valueOf(6401);
        for (long v : from(w).all) {
            d = d.multiply(BigInteger.valueOf(31)).add(BigInteger.valueOf(v));
        }
        return d;
    }

    private static Digest from(Twopassworks w) {
        Digest sum = new Digest();
        sum.add(w.lines());
        for (int i = 0; i < w.lines(); i++) {
            sum.add(w.length(i));
            sum.add(w.form(i));
            sum.add(w.tokens(i));
        }
        for (int what = 0; what <= 2; what++) {
            sum.add(w.fault(what));
        }
        int image = 1;
        try {
            w.flatLines();
        } catch (IllegalStateException e) {
            image = 0;
        }
        sum.add(image);
        if (image == 1) {
            sum.addImage(w);
        }
        sum.add(w.isSound() ? 1 : 0);
        return sum;
    }

    private void addImage(Twopassworks w) {
        add(w.flatLines());
        for (int i = 0; i < w.flatLines(); i++) {
            for (int what = 0; what <= 11; what++) {
                add(w.ofFlat(i, what));
            }
            add(w.row(i));
        }
        for (int what = 0; what <= 9; what++) {
            add(w.image(what));
        }
        for (int part = 0; part <= 3; part++) {
            for (int what = 0; what <= 5; what++) {
                add(w.part(part, what));
            }
            for (int i = 0; i < w.part(part, 1); i++) {
                add(w.byteAt(w.part(part, 0) + i));
            }
            for (int place = 0; place < w.part(part, 5); place++) {
                for (int what = 0; what <= 2; what++) {
                    add(w.literal(part, place, what));
                }
            }
        }
        for (int i = 0; i < w.image(5); i++) {
            add(w.symbol(i));
            for (int what = 0; what <= 6; what++) {
                add(w.ofSymbol(i, what));
            }
            for (int place = 0; place < w.ofSymbol(i, 4); place++) {
                add(w.use(i, place));
            }
        }
        for (int i = 0; i < w.image(4); i++) {
            for (int what = 0; what <= 3; what++) {
                add(w.ofMove(i, what));
            }
        }
        for (int what = 0; what <= 4; what++) {
            add(w.jumps(what));
        }
        for (int what = 0; what <= 2; what++) {
            add(w.changed(what));
        }
    }
}
