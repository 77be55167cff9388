/** All that can be asked of an assembler without a change, as one text. */
final class State {
    private State() {
    }

    static String of(Twopassworks w) {
        StringBuilder all = new StringBuilder();
        all.append(w.lines()).append(" lines");
        for (int i = 0; i < w.lines(); i++) {
            all.append('|').append(w.text(i));
        }
        all.append(" FAULT ").append(w.fault(0)).append(' ').append(w.fault(1)).append(' ').append(w.fault(2));
        all.append(" checksum ").append(Digest.of(w)).append(' ').append(w.digest());
        return all.toString();
    }
}
