/** What the tests share: they say what is due, and the program ends with 1 if something else came. */
final class Due {
    interface Call {
        Object run();
    }

    private static int wrong = 0;
    private static int looked = 0;

    private Due() {
    }

    /** A numbers' answer may be an int or a boolean (1 or 0); texts are compared as they are. */
    static void same(String what, Object want, Object got) {
        looked++;
        if (!String.valueOf(want).equals(String.valueOf(got))) {
            wrong++;
            System.out.println(what + " answered " + got + ", due is " + want);
        }
    }

    static void refuses(String what, Class<? extends RuntimeException> kind, Call call) {
        Object got;
        try {
            got = call.run();
        } catch (RuntimeException e) {
            got = e.getClass().getSimpleName();
        }
        same(what, kind.getSimpleName(), got);
    }

    static void outside(String what, Call call) {
        refuses(what, IndexOutOfBoundsException.class, call);
    }

    static void illegal(String what, Call call) {
        refuses(what, IllegalArgumentException.class, call);
    }

    static void tooEarly(String what, Call call) {
        refuses(what, IllegalStateException.class, call);
    }

    /** An assembler whose source has these lines. */
    static Twopassworks source(String... texts) {
        Twopassworks works = new Twopassworks();
        for (int i = 0; i < texts.length; i++) {
            line(works, i, texts[i]);
        }
        return works;
    }

    /** Puts a line of any text in. */
    static void line(Twopassworks works, int at, String text) {
        works.put(at, 0, 0, 0, 0, 0);
        for (int i = 0; i < text.length(); i++) {
            works.sign(at, i, text.charAt(i));
        }
    }

    /** The fault of these lines as "code line column". */
    static String faultOf(String... texts) {
        Twopassworks works = source(texts);
        int code = works.assemble();
        same("assemble() against fault(0)", code, works.fault(0));
        return works.fault(0) + " " + works.fault(1) + " " + works.fault(2);
    }

    /** What all FLAT lines of these lines are, with a bar between. */
    static String flatOf(String... texts) {
        Twopassworks works = assembled(texts);
        StringBuilder all = new StringBuilder();
        for (int i = 0; i < works.flatLines(); i++) {
            all.append(i == 0 ? "" : "|").append(works.flat(i));
        }
        return all.toString();
    }

    static Twopassworks assembled(String... texts) {
        Twopassworks works = source(texts);
        int code = works.assemble();
        if (code != 0) {
            same("assemble() of " + String.join("|", texts), 0,
                code + " at " + works.fault(1) + " " + works.fault(2));
            return assembled();
        }
        return works;
    }

    static void end() {
        System.out.println(looked + " answers looked at, " + wrong + " wrong");
        if (wrong > 0) {
            System.exit(1);
        }
    }
}
