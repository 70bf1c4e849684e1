/** Counts the answers that are not as due, and feeds texts to an object. */
final class Check {
    private int asked = 0;
    private int wrong = 0;

    void due(String call, long got, long want) {
        asked++;
        if (got != want) {
            wrong++;
            if (wrong <= 50) {
                System.out.println(call + " answered " + got + ", due is " + want);
            }
        }
    }

    void due(String call, boolean got, boolean want) {
        due(call, got ? 1 : 0, want ? 1 : 0);
    }

    /** The fault of a text, at the place where a caret stands in it; 0 is none. */
    void dueFault(ByHeart x, boolean piece, int fault, String text) {
        int place = text.indexOf('^');
        String plain = text.replace("^", "");
        type(x, plain);
        int got = piece ? x.piece() : x.rules();
        due(plain + " is fine", got >= 0, fault == 0);
        due(plain + " fault(0)", x.fault(0), fault);
        due(plain + " fault(1)", x.fault(1), fault == 0 ? -1 : place);
    }

    int wrong() {
        return wrong;
    }

    void finish() {
        System.out.println(wrong == 0 ? asked + " answers are as due" : wrong + " of " + asked + " answers are not as due");
        if (wrong != 0 || asked == 0) {
            System.exit(1);
        }
    }

    /** The four bytes of a text from a place on; blanks behind its end. */
    static int four(String text, int from) {
        int value = 0;
        for (int i = from; i < from + 4; i++) {
            value = value << 8 | (i < text.length() ? text.charAt(i) & 255 : ' ');
        }
        return value;
    }

    /** The text alone is on the tape then. */
    static void type(ByHeart x, String text) {
        x.end(0);
        for (int i = 0; i < text.length(); i += 20) {
            x.feed(four(text, i), four(text, i + 4), four(text, i + 8), four(text, i + 12), four(text, i + 16));
        }
        x.end(text.length());
    }

    static int tell(ByHeart x, String piece) {
        type(x, piece);
        return x.piece();
    }

    static int tellRules(ByHeart x, String rules) {
        type(x, rules);
        return x.rules();
    }

    static ByHeart with(String piece) {
        ByHeart x = new ByHeart();
        if (tell(x, piece) < 0) {
            throw new IllegalStateException("a fault in: " + piece);
        }
        return x;
    }
}
