/** The checksum of promise 41, from what the other methods answer. */
final class Digest {
    private long d = 6401;

    private Digest() {
    }

    private void add(long v) {
        d = d * 31 + v;
    }

    private void add(String text) {
        for (int i = 0; i < text.length(); i++) {
            add(text.charAt(i));
        }
    }

    static long of(Twopassworks w) {
        Digest sum = new Digest();
        sum.add(w.lines());
        for (int i = 0; i < w.lines(); i++) {
            sum.add(w.length(i));
            sum.add(w.form(i));
            sum.add(w.tokens(i));
        }
        for (int what = 0; what <= 2; what++) {
            sum.add(w.fault(what));
        }
        int image = 1;
        try {
            w.flatLines();
        } catch (IllegalStateException e) {
            image = 0;
        }
        sum.add(image);
        if (image == 1) {
            sum.addImage(w);
        }
        sum.add(w.isSound() ? 1 : 0);
        return sum.d;
    }

    private void addImage(Twopassworks w) {
        add(w.flatLines());
        for (int i = 0; i < w.flatLines(); i++) {
            for (int what = 0; what <= 11; what++) {
                add(w.ofFlat(i, what));
            }
            add(w.row(i));
        }
        for (int what = 0; what <= 9; what++) {
            add(w.image(what));
        }
        for (int part = 0; part <= 3; part++) {
            for (int what = 0; what <= 5; what++) {
                add(w.part(part, what));
            }
            for (int i = 0; i < w.part(part, 1); i++) {
                add(w.byteAt(w.part(part, 0) + i));
            }
            for (int place = 0; place < w.part(part, 5); place++) {
                for (int what = 0; what <= 2; what++) {
                    add(w.literal(part, place, what));
                }
            }
        }
        for (int i = 0; i < w.image(5); i++) {
            add(w.symbol(i));
            for (int what = 0; what <= 6; what++) {
                add(w.ofSymbol(i, what));
            }
            for (int place = 0; place < w.ofSymbol(i, 4); place++) {
                add(w.use(i, place));
            }
        }
        for (int i = 0; i < w.image(4); i++) {
            for (int what = 0; what <= 3; what++) {
                add(w.ofMove(i, what));
            }
        }
        for (int what = 0; what <= 4; what++) {
            add(w.jumps(what));
        }
        for (int what = 0; what <= 2; what++) {
            add(w.changed(what));
        }
    }
}
