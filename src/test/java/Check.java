/** Counts the answers that are not as due, and feeds texts to an object. */
final class Check {
    private int asked = 0;
    private int wrong = 0;

    void due(String call, long got, long want) {
        asked++;
        if (got != want) {
            wrong++;
            if (wrong <= 50) {
                System.out.println(call + " answered " + got + ", due is " + want);
            }
        }
    }

    void due(String call, boolean got, boolean want) {
        due(call, got ? 1 : 0, want ? 1 : 0);
    }

    /** The fault of a text, at the place where a caret stands in it; 0 is none. */
    void dueFault(ByHeart x, boolean piece, int fault, String text) {
        int place = text.indexOf('^');
        String plain = text.replace("^", "");
        type(x, plain);
        int got = piece ? x.piece() : x.rules();
        due(plain + " is fine", got >= 0, fault == 0);
        due(plain + " fault(0)", x.fault(0), fault);
        due(plain + " fault(1)", x.fault(1), fault == 0 ? -1 : place);
    }

    int wrong() {
        return wrong;
    }

    void finish() {
        System.out.println(wrong == 0 ? asked + " answers are as due" : wrong + " of " + asked + " answers are not as due");
        if (wrong != 0 || asked == 0) {
            System.exit(1);
        }
    }

    /** The four bytes of a text from a place on; blanks behind its end. */
    static int four(String text, int from) {
        int value = 0;
        for (int i = from; i < from + 4; i++) {
            value = value << 8 | (i < text.length() ? text.charAt(i) & 255 : ' ');
        }
        return value;
    }

    /** The text alone is on the tape then. */
    static void type(ByHeart x, String text) {
        x.end(0);
        for (int i = 0; i < text.length(); i += 20) {
            x.feed(four(text, i), four(text, i + 4), four(text, i + 8), four(text, i + 12), four(text, i + 16));
        }
        x.end(text.length());
    }

    static int tell(ByHeart x, String piece) {
        type(x, piece);
        return x.piece();
    }

    static int tellRules(ByHeart x, String rules) {
        type(x, rules);
        return x.rules();
    }

    /** A w behind which the next draw of 1000 is least .. most. */
    static int seedFor(int least, int most) {
        return seedForRow(new int[] {1, least, most});
    }

    /** A w behind which the next draws are within these: how many, the least, the most; then those behind them. */
    static int seedForRow(int[]... draws) {
        for (int w = 1; w != 0; w++) {
            if (drawsAre(w, draws)) {
                return w;
            }
        }
        throw new IllegalStateException("no such row of draws");
    }

    private static boolean drawsAre(int seed, int[][] draws) {
        int w = seed;
        for (int[] d : draws) {
            for (int i = 0; i < d[0]; i++) {
                w = w * 1103515245 + 12345;
                int draw = (w >>> 16) % 1000;
                if (draw < d[1] || draw > d[2]) {
                    return false;
                }
            }
        }
        return true;
    }

    static ByHeart with(String piece) {
        ByHeart x = new ByHeart();
        if (tell(x, piece) < 0) {
            throw new IllegalStateException("a fault in: " + piece);
        }
        return x;
    }
}
