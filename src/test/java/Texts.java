import java.util.Random;

/** Draws texts of pieces and rules, most of them without a fault. */
final class Texts {
    private static final String[] WORDS = ("heap part from to door mark law gain fade cross weak save ear plan times "
            + "slow when do day hold head cuts least and or not x y z ab abcdefgh abcdefghi ; ( ) < > = + - * 0 1 7 23 24 "
            + "0000 9999 12345 1a a1 # ? A").split(" ");

    private final Random random;

    Texts(Random random) {
        this.random = random;
    }

    int below(int n) {
        return random.nextInt(n);
    }

    private String blank() {
        int n = below(12);
        return n == 0 ? "\n" : n == 1 ? "  " : " ";
    }

    /** A blank or none, where none is needed. */
    private String gap() {
        return below(3) == 0 ? blank() : "";
    }

    String piece() {
        StringBuilder s = new StringBuilder();
        int heaps = below(20) == 0 ? 9 : 1 + below(4);
        int looks = 1 + below(5);
        int bars = 0;
        for (int i = 0; i < heaps; i++) {
            s.append("heap").append(blank()).append((char) ('a' + i));
            int many = below(15) == 0 ? 20 : 1 + below(below(3) == 0 ? 12 : 4);
            for (int k = 0; k < many; k++) {
                s.append(blank()).append(below(6) == 0 ? "lo" : "").append((char) ('p' + below(looks)));
            }
            bars += many;
            s.append(gap()).append(";").append(gap());
            if (below(3) == 0) {
                s.append("door").append(gap()).append(below(bars)).append(gap()).append(";");
            }
        }
        line(s, bars, heaps);
        return s.toString();
    }

    private void line(StringBuilder s, int bars, int heaps) {
        int parts = below(3);
        for (int i = 0; i < parts; i++) {
            int a = below(heaps);
            s.append("part ").append((char) ('a' + i)).append(" from ").append((char) ('a' + a));
            s.append(" to ").append((char) ('a' + a + below(heaps - a))).append(";");
        }
        if (below(4) != 0) {
            s.append(law());
        }
        int plans = below(5);
        for (int i = 0; i < plans; i++) {
            int a = below(bars);
            s.append(gap()).append("plan ").append((char) ('m' + i)).append(" from").append(gap()).append(a);
            s.append(" to ").append(a + below(bars - a)).append(" times ").append(below(4));
            s.append(" slow ").append(below(3)).append(";");
        }
        for (int i = below(3); i > 0; i--) {
            s.append(below(2) == 0 ? "door " : "mark ").append(below(bars)).append(gap()).append(";\n");
        }
    }

    private String law() {
        return "law gain " + (1 + below(500)) + " fade " + below(201) + " cross " + below(101) + " weak "
                + (below(3) == 0 ? below(1001) : below(300)) + " save " + below(25) + " ear " + below(8) + ";";
    }

    String rules(int bars, int plans) {
        StringBuilder s = new StringBuilder();
        for (int i = below(4); i >= 0; i--) {
            s.append("when ").append(either(Math.max(1, bars), 0)).append(" do ");
            s.append((char) ('m' + below(Math.max(1, plans)))).append(gap()).append(";").append(gap());
        }
        return s.toString();
    }

    private String either(int bars, int deep) {
        StringBuilder s = new StringBuilder(one(bars, deep));
        for (int i = below(3); i > 0; i--) {
            s.append(below(2) == 0 ? " or " : " and ").append(one(bars, deep));
        }
        return s.toString();
    }

    private String one(int bars, int deep) {
        if (below(5) == 0 && deep < 9) {
            return "not " + one(bars, deep + 1);
        }
        return sum(bars, deep) + (below(2) == 0 ? gap() + "<>=".charAt(below(3)) + gap() + sum(bars, deep) : "");
    }

    private String sum(int bars, int deep) {
        StringBuilder s = new StringBuilder(unit(bars, deep));
        for (int i = below(6) - 3; i > 0; i--) {
            s.append(gap()).append("+-*".charAt(below(3))).append(gap()).append(unit(bars, deep));
        }
        return s.toString();
    }

    private String unit(int bars, int deep) {
        switch (below(deep < 9 ? 7 : 6)) {
            case 0:
                return "day";
            case 1:
                return "least";
            case 2:
                return "hold " + below(bars);
            case 3:
                return "head" + gap() + below(bars);
            case 4:
                return "cuts " + below(bars);
            case 5:
                return "" + below(below(2) == 0 ? 10 : 10000);
            default:
                return "(" + either(bars, deep + 1) + ")";
        }
    }

    /** The text with some of it gone, doubled or put in. */
    String spoilt(String text) {
        StringBuilder s = new StringBuilder(text);
        int at = below(s.length() + 1);
        switch (below(4)) {
            case 0:
                s.delete(at, Math.min(s.length(), at + 1 + below(4)));
                break;
            case 1:
                s.insert(at, " " + WORDS[below(WORDS.length)] + " ");
                break;
            case 2:
                s.insert(at, (char) below(256));
                break;
            default:
                s.insert(at, s.substring(at, Math.min(s.length(), at + below(30))));
                break;
        }
        return s.toString();
    }
}
