/** Where the terms name an edge of the texts: bytes, tokens, lines, how many, numbers, faults and their places. */
public final class TextEdgesTest {
    private static final Check CHECK = new Check();
    private static final String OWN = "heap part from to door mark law gain fade cross weak save ear plan times slow "
            + "when do day hold head cuts least and or not";
    private static final String LAW = "law gain 1 fade 0 cross 0 weak 0 save 0 ear 0;";

    public static void main(String[] args) {
        feedRoom();
        feedOrder();
        feedBehindEnd();
        endRange();
        longestPiece();
        everyByte();
        words();
        wordsApart();
        numbers();
        blanks();
        linesCutOff();
        linesSpoilt();
        ownWords();
        bars();
        heaps();
        parts();
        plans();
        doorsAndMarks();
        laws();
        lawUntold();
        names();
        placesOfFaults();
        leastFaultAtAPlace();
        emptyPiece();
        endInTokens();
        pieceOverPiece();
        faultOver();
        CHECK.finish();
    }

    /** The fault of a piece, at the place where a caret stands; 0 is none. */
    private static void told(int fault, String text) {
        CHECK.dueFault(new ByHeart(), true, fault, text);
    }

    private static void due(String call, long got, long want) {
        CHECK.due(call, got, want);
    }

    private static void dueAt(String call, ByHeart x, int fault, int place) {
        due(call + ": fault(0)", x.fault(0), fault);
        due(call + ": fault(1)", x.fault(1), place);
    }

    // ---- promises 2 and 3: the tape ----

    private static void feedRoom() {
        ByHeart x = new ByHeart();
        due("2: the tape is empty at first", x.about(8), 0);
        for (int i = 1; i <= 74; i++) {
            x.feed(0, 0, 0, 0, 0);
        }
        due("2: 74 times twenty", x.about(8), 1480);
        due("2: 1,500 are no more than 1,500", x.feed(0, 0, 0, 0, 0), 1500);
        due("2: twenty more are", x.feed(0, 0, 0, 0, 0), -1);
        due("2: nothing comes", x.about(8), 1500);
        due("3: end(1481)", x.end(1481), 1481);
        due("2: 1,501 are more", x.feed(0, 0, 0, 0, 0), -1);
        due("2: nothing comes", x.about(8), 1481);
        due("3: end(1480)", x.end(1480), 1480);
        due("2: 1,500 again", x.feed(0, 0, 0, 0, 0), 1500);
    }

    private static void feedOrder() {
        // Each of the twenty places once holds what is no token; all behind it and ahead of it are blanks.
        for (int place = 0; place < 20; place++) {
            int[] n = new int[5];
            for (int i = 0; i < 20; i++) {
                n[i / 4] |= (i == place ? 255 : 32) << 24 - i % 4 * 8;
            }
            ByHeart x = new ByHeart();
            x.feed(n[0], n[1], n[2], n[3], n[4]);
            due("2: a byte at " + place, x.piece(), -1);
            dueAt("2: a byte at " + place, x, 1, place);
        }
    }

    private static void feedBehindEnd() {
        ByHeart x = new ByHeart();
        Check.type(x, "heap a x?");
        x.end(8);
        due("2: behind those on the tape", x.feed(0x20792020, 0x20202020, 0x20202020, 0x20202020, 0x2020203b), 28);
        due("2: behind those on the tape", x.piece(), 2);
        Check.type(x, "heap a x;");
        x.end(8);
        x.end(9);
        due("3: what was cut off does not come back", x.about(8), 8);
    }

    private static void endRange() {
        ByHeart x = new ByHeart();
        due("3: 0 of none", x.end(0), 0);
        due("3: 1 of none", x.end(1), -1);
        for (int i = 0; i < 75; i++) {
            x.feed(0, 0, 0, 0, 0);
        }
        int[] refused = {1501, -1, Integer.MAX_VALUE, Integer.MIN_VALUE};
        for (int n : refused) {
            due("3: end(" + n + ") of 1,500", x.end(n), -1);
            due("3: end(" + n + ") does nothing", x.about(8), 1500);
        }
        due("3: all of them", x.end(1500), 1500);
        due("3: one less", x.end(1499), 1499);
        due("3: one more than there are", x.end(1500), -1);
        due("3: none", x.end(0), 0);
        due("3: none are there then", x.about(8), 0);
    }

    private static void longestPiece() {
        String text = "heap a x;" + " ".repeat(1484) + "mark 0;";
        ByHeart x = new ByHeart();
        Check.type(x, text);
        due("Terms: 1,500 bytes", x.about(8), 1500);
        due("Terms: 1,500 bytes are a piece", x.piece(), 1);
        due("Terms: the last bytes, too", x.bar(0, 6), 1);
        Check.type(x, text);
        x.end(1499);
        due("Terms: the last byte is gone", x.piece(), -1);
        dueAt("Terms: the end of 1,499 bytes", x, 2, 1499);
        told(1, "heap a x;" + " ".repeat(1490) + "^?");
        told(2, "heap a x" + " ".repeat(1492) + "^");
        told(0, "heap a" + "\n".repeat(1492) + "x;");
    }

    // ---- tokens ----

    private static void everyByte() {
        for (int c = 0; c < 256; c++) {
            boolean blank = c == 32 || c == 10;
            boolean token = c >= 'a' && c <= 'z' || c >= '0' && c <= '9' || c == ';';
            ByHeart x = new ByHeart();
            Check.type(x, "heap a x; " + (char) c);
            due("Terms: byte " + c, x.piece(), blank ? 1 : -1);
            dueAt("Terms: byte " + c, x, blank ? 0 : token ? 2 : 1, blank ? -1 : 10);
        }
    }

    private static void words() {
        told(0, "heap abcdefgh abcdefgh;");
        told(1, "heap ^abcdefghi x;");
        told(1, "heap a ^abcdefghi;");
        told(1, "heap a abcdefgh ^abcdefghi");
        told(1, "^aaaaaaaaaaaaaaaaaaaaaaaaaaaaaa");
        told(0, "heap aaaaaaaa x;part aaaaaaaa from aaaaaaaa to aaaaaaaa;plan aaaaaaaa from 0 to 0 times 0 slow 0;");
        told(1, "heap a x;part ^aaaaaaaaa from a to a;");
        told(1, "heap a x;part p from ^aaaaaaaaa to a;");
        told(1, "heap a x;part p from a to ^aaaaaaaaa;");
        told(1, "heap a x;plan ^aaaaaaaaa from 0 to 0 times 0 slow 0;");
        // As long as can be: no word ends where another might begin.
        told(2, "^heapa x;");
        told(2, "heap ax^;");
        told(2, "heap a x;^doorz 0;");
        told(2, "heap a x;^heaps;");
        // Two of eight letters are told apart by the last, and by how many there are.
        told(0, "heap abcdefgh x;heap abcdefgi x;heap abcdefg x;");
        ByHeart x = Check.with("heap a zzzzzzzz zzzzzzzy zzzzzzz zzzzzzzz aaaaaaaa aaaaaaa a aa;");
        due("9: eight letters, the same", x.alike(0, 3), 1);
        int[][] other = {{0, 1}, {0, 2}, {1, 2}, {4, 5}, {4, 6}, {5, 6}, {6, 7}, {0, 4}};
        for (int[] o : other) {
            due("9: " + o[0] + " and " + o[1] + " are not", x.alike(o[0], o[1]), 0);
        }
    }

    /** No word of two letters is the same as one of one letter, or another with one letter changed. */
    private static void wordsApart() {
        String letters = "abcdefghijklmnopqrstuvwxyz";
        String own = " to do or ";
        for (int i = 0; i < 26 * 26; i++) {
            String two = "" + letters.charAt(i / 26) + letters.charAt(i % 26);
            if (!own.contains(" " + two + " ")) {
                for (int from = 0; from < 26; from += 13) {
                    ByHeart x = Check.with("heap a " + two + " " + String.join(" ", letters.substring(from, from + 13).split("")) + ";");
                    for (int bar = 1; bar <= 13; bar++) {
                        due("9: " + two + " and " + letters.charAt(from + bar - 1), x.alike(0, bar), 0);
                    }
                }
            }
        }
        String[] pairs = {"aq q", "bq aq", "p ap", "zz zy", "az b", "a aa", "ba abz", "abcdefgh bcdefgh", "zabcdefg abcdefg",
            "aaaaaaaa baaaaaaa", "zzzzzzzz yzzzzzzz", "azzzzzzz zzzzzzz"};
        for (String pair : pairs) {
            due("9: " + pair, Check.with("heap a " + pair + ";").alike(0, 1), 0);
        }
    }

    private static void numbers() {
        told(0, "heap a x;door 0;");
        told(0, "heap a x;door 00;");
        told(0, "heap a x;door 000;");
        told(0, "heap a x;door 0000;");
        told(1, "heap a x;door ^00000;");
        told(1, "heap a x;door ^000000000000000000000000;");
        told(1, "heap a x;door ^99999999999;");
        told(4, "heap a x;door ^9999;");
        told(0, "heap a x y z u v w p q r s;door 9;");
        // No letter directly behind an N: a z and an a, in each line; a blank, a sign or the end may be there.
        told(1, "heap a x;door ^0a;");
        told(1, "heap a x;door ^0z;");
        told(1, "heap a x;door ^0000z;");
        told(1, "heap a x;plan p from ^0to 0 times 0 slow 0;");
        told(1, "heap a x;plan p from 0 to ^0times 0 slow 0;");
        told(1, "heap a x;plan p from 0 to 0 times ^0slow 0;");
        told(1, "law gain ^1fade 0 cross 0 weak 0 save 0 ear 0;");
        told(2, "heap a x;door 0 ^z;");
        told(2, "heap a x;door 0\n^z;");
        told(2, "heap a x;door 0^");
        told(2, "heap a x;door 0 ^0;");
        // A digit behind a word parts them.
        told(0, "heap a x;door0;mark0;plan p from0 to0 times0 slow0;law gain1 fade0 cross0 weak0 save0 ear0;");
        told(2, "heap a^1;");
        told(2, "heap^1 x;");
    }

    private static void blanks() {
        told(0, "\n\n heap\na \n x\n\n;\n \n");
        told(0, "heap a x;door 0;mark 0;part p from a to a;");
        told(0, "heap a x ; door 0 ; mark 0 ; part p from a to a ; ");
        int[] others = {0, 9, 11, 12, 13, 31, 33, 127, 128, 160, 255};
        for (int c : others) {
            told(1, "heap a^" + (char) c + "x;");
            told(1, "^" + (char) c + "heap a x;");
            told(1, "heap a x;^" + (char) c);
        }
        told(2, "^he ap a x;");
        told(2, "heap a x;door 0;door ^;");
    }

    // ---- lines ----

    private static final String[] LINES = {"heap c x y z ;", "part r from a to b ;", "door 1 ;", "mark 1 ;",
        "law gain 1 fade 0 cross 0 weak 0 save 0 ear 0 ;", "plan s from 0 to 1 times 2 slow 3 ;"};
    private static final String AHEAD = "heap a x y;heap b z;part p from a to a;plan q from 0 to 0 times 1 slow 1;";

    /** Each line, ended behind each of its tokens but the last, is at fault where the text ends. */
    private static void linesCutOff() {
        for (String line : LINES) {
            String[] tokens = line.split(" ");
            StringBuilder part = new StringBuilder(AHEAD);
            for (int i = 0; i < tokens.length - 1; i++) {
                part.append(tokens[i]);
                told(2, part + "^");
                told(2, part + " \n ^");
                part.append(' ');
            }
            told(0, part + ";");
        }
    }

    /** Each token in its place, put in place of another of another sort, can't stand there. */
    private static void linesSpoilt() {
        for (String line : LINES) {
            String[] tokens = line.split(" ");
            for (int i = 0; i < tokens.length; i++) {
                boolean number = tokens[i].matches("[0-9]+");
                boolean name = !number && !(" " + OWN + " ").contains(" " + tokens[i] + " ") && !tokens[i].equals(";");
                boolean furtherLook = tokens[0].equals("heap") && (i == 3 || i == 4);
                spoilt(tokens, i, "when");
                if (!furtherLook) {
                    spoilt(tokens, i, tokens[i].equals(";") ? "0" : ";");
                }
                if (!number) {
                    spoilt(tokens, i, "0");
                }
                if (!name && !(tokens[0].equals("heap") && tokens[i].equals(";"))) {
                    spoilt(tokens, i, "x");
                }
            }
        }
    }

    private static void spoilt(String[] tokens, int at, String by) {
        StringBuilder text = new StringBuilder(AHEAD);
        for (int i = 0; i < tokens.length; i++) {
            text.append(i == at ? "^" + by : tokens[i]).append(' ');
        }
        told(2, text.toString());
    }

    private static void ownWords() {
        String ahead = "heap a x;";
        due("Terms: words that stand for themselves", OWN.split(" ").length, 26);
        for (String word : OWN.split(" ")) {
            told(2, "heap ^" + word + " x;");
            told(2, "heap a ^" + word + ";");
            told(2, "heap a x ^" + word + ";");
            told(2, ahead + "part ^" + word + " from a to a;");
            told(2, ahead + "part p from ^" + word + " to a;");
            told(2, ahead + "part p from a to ^" + word + ";");
            told(2, ahead + "plan ^" + word + " from 0 to 0 times 0 slow 0;");
            if (word.length() < 8) {
                told(0, "heap " + word + "z z" + word + ";");
            }
            told(0, "heap " + word.substring(1) + "q " + word.substring(1) + "q;");
        }
        told(0, "heap who x;heap doing holds;heap nor nots an;heap leas heaps;");
    }

    // ---- how many ----

    private static void bars() {
        String bars = " x".repeat(24);
        due("Terms: 24 bars", Check.tell(new ByHeart(), "heap a" + bars + ";"), 24);
        told(2, "heap a" + bars + " ^x;");
        told(2, "heap a" + bars + ";heap b ^x;");
        told(2, "heap a" + " x".repeat(23) + ";heap b x ^x;");
        told(0, "heap a" + " x".repeat(23) + ";heap b x;door 23;mark 23;plan p from 23 to 23 times 0 slow 0;");
        told(4, "heap a" + bars + ";door ^24;");
        told(4, "heap a" + bars + ";mark ^24;");
        told(4, "heap a" + bars + ";plan p from 0 to ^24 times 0 slow 0;");
        told(4, "heap a" + " x".repeat(23) + ";door ^23;");
        told(2, "heap a^;");
        due("Terms: one bar", Check.tell(new ByHeart(), "heap a x;"), 1);
        ByHeart x = new ByHeart();
        Check.tell(x, "heap a" + bars + " x;");
        due("Terms: a 25th bar leaves none", x.about(0), 0);
    }

    private static String manyHeaps(int many, String looks) {
        StringBuilder s = new StringBuilder();
        for (int i = 0; i < many; i++) {
            s.append("heap ").append((char) ('a' + i)).append(looks).append(';');
        }
        return s.toString();
    }

    private static void heaps() {
        ByHeart x = Check.with(manyHeaps(8, " x"));
        due("Terms: 8 heaps", x.about(1), 8);
        due("6: the last heap", x.bar(7, 4), 7);
        told(2, manyHeaps(8, " x") + "^heap i x;");
        told(2, manyHeaps(8, " x") + "^heap a x;");
        told(2, manyHeaps(8, " x") + "^heap ?");
        told(2, manyHeaps(8, " x x x") + "^heap i x;");
        told(0, manyHeaps(8, " x x x") + "door 23;part p from a to h;");
        told(0, manyHeaps(7, " x") + "heap i x;");
    }

    private static String manyParts(int many) {
        StringBuilder s = new StringBuilder("heap a x;");
        for (int i = 0; i < many; i++) {
            s.append("part ").append((char) ('a' + i)).append(" from a to a;");
        }
        return s.toString();
    }

    private static void parts() {
        due("Terms: 4 parts", Check.with(manyParts(4)).about(2), 4);
        told(2, manyParts(4) + "^part e from a to a;");
        told(2, manyParts(4) + "^part a from a to a;");
        told(2, manyParts(4) + "^part");
        told(0, manyParts(4) + "heap b x;plan a from 0 to 1 times 0 slow 0;");
        told(0, "heap a x;heap b x;part p from a to b;part q from b to b;part r from a to a;");
        told(6, "heap a x;heap b x;part p from b to ^a;");
        told(6, manyHeaps(8, " x") + "part p from h to ^g;");
        told(0, manyHeaps(8, " x") + "part p from h to h;part q from a to h;");
        told(5, "part p from ^a to a;");
        told(5, "heap a x;part p from ^b to a;heap b x;");
        told(5, "heap a x;part p from a to ^b;heap b x;");
        told(5, "heap a x;part p from a to ^x;");
        told(5, "heap a x;part p from a to a;part q from ^p to p;");
        ByHeart x = Check.with("heap a x y;heap b z;part p from b to b;heap c u v;part q from a to c;");
        int[][] want = {{2, 2}, {0, 4}};
        for (int i = 0; i < 2; i++) {
            due("7: part(" + i + ", 0)", x.part(i, 0), want[i][0]);
            due("7: part(" + i + ", 1)", x.part(i, 1), want[i][1]);
        }
        x = Check.with("heap a x;part p from a to a;heap b y y;");
        due("7: a heap that comes later is not in it", x.part(0, 1), 0);
    }

    private static String manyPlans(int many) {
        StringBuilder s = new StringBuilder("heap a x y z;");
        for (int i = 0; i < many; i++) {
            s.append("plan ").append((char) ('a' + i)).append(" from 0 to 2 times 0 slow 0;");
        }
        return s.toString();
    }

    private static void plans() {
        due("Terms: 6 plans", Check.with(manyPlans(6)).about(3), 6);
        told(2, manyPlans(6) + "^plan g from 0 to 0 times 0 slow 0;");
        told(2, manyPlans(6) + "^plan a from 0 to 0 times 0 slow 0;");
        told(2, manyPlans(6) + "^plan");
        told(0, manyPlans(6) + "part a from a to a;door 0;");
        String plan = "heap a x y z;plan p from ";
        told(0, plan + "0 to 0 times 0 slow 0;");
        told(0, plan + "2 to 2 times 20 slow 20;");
        told(0, plan + "1 to 2 times 0020 slow 0020;");
        told(4, plan + "^3 to 3 times 0 slow 0;");
        told(4, plan + "0 to ^3 times 0 slow 0;");
        told(4, plan + "2 to ^1 times 0 slow 0;");
        told(4, plan + "1 to ^0 times 0 slow 0;");
        told(4, plan + "0 to 0 times ^21 slow 0;");
        told(4, plan + "0 to 0 times 0 slow ^21;");
        told(4, plan + "0 to 0 times ^9999 slow 0;");
        told(4, "plan p from ^0 to 0 times 0 slow 0;heap a x;");
        told(4, "heap a x;plan p from 0 to ^1 times 0 slow 0;heap b x;");
    }

    private static void doorsAndMarks() {
        String bars = "heap a" + " x".repeat(24) + ";";
        StringBuilder all = new StringBuilder(bars);
        for (int i = 0; i < 24; i++) {
            all.append("door ").append(i).append(";mark ").append(i).append(';');
        }
        ByHeart x = Check.with(all.toString());
        for (int i = 0; i < 24; i++) {
            due("Terms: a door and a mark at " + i, x.bar(i, 5) + 2 * x.bar(i, 6), 3);
        }
        for (String sort : new String[] {"door", "mark"}) {
            told(4, sort + " ^0;");
            told(4, sort + " ^0;heap a x;");
            told(0, "heap a x y;" + sort + " 1;" + sort + " 0;");
            told(4, "heap a x y;" + sort + " ^2;");
            told(4, "heap a x y;" + sort + " ^2;heap b x;");
            told(3, "heap a x y;" + sort + " 1;" + sort + " ^1;");
            told(3, "heap a x y;" + sort + " 0;" + sort + " ^0000;");
            told(3, "heap a x y;" + sort + " 0;" + sort + " 1;heap b x;" + sort + " ^0;");
        }
        told(0, "heap a x;door 0;mark 0;");
    }

    private static String lawWith(int at, String number) {
        String[] words = {"gain", "fade", "cross", "weak", "save", "ear"};
        StringBuilder s = new StringBuilder("law");
        for (int i = 0; i < 6; i++) {
            s.append(' ').append(words[i]).append(' ').append(i == at ? number : "1");
        }
        return s + ";";
    }

    private static void laws() {
        String[] least = {"1", "0", "0", "0", "0", "0"};
        int[] most = {500, 200, 100, 1000, 24, 24};
        for (int i = 0; i < 6; i++) {
            told(0, lawWith(i, least[i]));
            told(0, lawWith(i, "000" + least[i]));
            told(0, lawWith(i, "" + most[i]));
            told(4, lawWith(i, "^" + (most[i] + 1)));
            told(4, lawWith(i, "^9999"));
            told(1, lawWith(i, "^00001"));
        }
        told(4, lawWith(0, "^0"));
        told(4, lawWith(0, "^0000"));
        told(0, LAW);
        told(2, LAW + "^" + LAW);
        told(2, LAW + "heap a x;^law ?");
        told(0, "heap a x;" + LAW + "door 0;");
    }

    /** 100, 10, 20, 500, 4, 2 if not told: each seen at a value that one more or one less would change. */
    private static void lawUntold() {
        ByHeart x = Check.with("heap a x y;heap b x z u v;door 4;door 5;");
        x.slow(0, 0);
        due("Terms: gain 100, in the head", x.bar(0, 1), 100);
        due("Terms: half of it in the hold", x.bar(0, 0), 50);
        // 100 * 10 / 1000 is 1, by 9 it were 0.
        x.image(0);
        x.days(1);
        due("Terms: fade 10", x.bar(0, 1), 99);
        x.again(0);
        // 50 * 20 / 1000 is 1, by 19 it were 0.
        due("Terms: cross 20", x.behind(2, 0), 1);
        x.slow(0, 0);
        // 97 * 20 / 1000 is 1, by 21 it were 2.
        due("Terms: cross 20", x.behind(2, 0), 1);
        due("Terms: weak 500", x.behind(3, -1), 500);
        due("Terms: fade 10", x.days(1), 1);
        // 190 less by 1 (by 11 it were 2); 97 * 10 / 1000 is 0, by 11 it were 1.
        due("Terms: fade 10, in the head", x.bar(0, 1), 189);
        due("Terms: fade 10, in the hold", x.bar(0, 0), 97);
        due("Terms: save 4", x.saved(0), 4);
        x.set(0, 4, false);
        due("Terms: save 4, not 5", x.saved(0), -1);
        due("Terms: save 4 from the next one", x.saved(1), 5);
        x = Check.with("heap a x y z u;door 2;");
        // All stop at the first bar, saved two bars farther on; there a half is lost, of the rest behind it a half.
        due("Terms: ear 2, two bars farther on is not heard", x.through(0, 0, 1000, 3), 750000);
        x.set(0, 2, false);
        x.set(0, 3, true);
        // All stop at the first bar, saved three bars farther on; there a half is lost.
        due("Terms: ear 2, three are", x.through(0, 0, 1000, 3), 1500000);
        // A law told in one piece is not that of the next one.
        Check.tell(x, "law gain 7 fade 0 cross 0 weak 0 save 0 ear 0;heap a x;");
        x.slow(0, 0);
        due("Terms: gain 7, told", x.bar(0, 1), 7);
        Check.tell(x, "heap a x;");
        x.slow(0, 0);
        due("Terms: gain 100, not told again", x.bar(0, 1), 100);
    }

    private static void names() {
        told(3, "heap a x;heap ^a y;");
        told(3, manyHeaps(7, " x") + "heap ^g y;");
        told(3, manyParts(3) + "part ^c from a to a;");
        told(3, manyPlans(5) + "plan ^e from 0 to 0 times 0 slow 0;");
        told(3, "heap abcdefgh x;heap ^abcdefgh x;");
        told(0, "heap a a;part a from a to a;plan a from 0 to 0 times 0 slow 0;");
        told(0, "heap a x;heap aa x;heap b x;heap ab x;");
    }

    // ---- faults ----

    private static void placesOfFaults() {
        told(1, "^?");
        told(2, "^;");
        told(2, "   ^;");
        told(2, "heap^");
        told(2, "heap   ^");
        told(2, "heap a\n^");
        // The first by its place: what is wrong farther on is not told.
        told(4, "heap a x;door ^1;?");
        told(2, "heap a ^;heap ?");
        told(3, "heap a x;heap ^a ?");
        told(5, "heap a x;part p from ^b to ?");
        told(6, "heap a x;heap b y;part p from b to ^a ?");
        told(2, "heap a x;door 0 ^door 0;");
        told(1, "heap a x;door 0;^?door 0;");
        told(4, "law gain ^0 fade 999");
        // A heap, a part, a plan too many: at its first word, not where it goes wrong.
        told(2, manyHeaps(8, " x") + "  ^heap heap");
        told(2, manyParts(4) + "\n^part part");
        told(2, manyPlans(6) + " ^plan plan");
        told(2, LAW + " ^law law");
    }

    private static void leastFaultAtAPlace() {
        // 1 is less than 2: what is no token can't stand there either.
        told(1, "heap a" + " x".repeat(24) + " ^?");
        told(1, "heap a" + " x".repeat(24) + " ^abcdefghi;");
        told(1, manyHeaps(8, " x") + "^heapheaph");
        // 1 is less than 4: an N that no BAR has, with a letter behind it.
        told(1, "heap a x;door ^1z");
        told(1, "law gain ^0z");
        told(1, "law gain ^50000");
        // 2 is less than 3: a word that stands for itself, where a name is due.
        told(2, "heap a x;heap ^heap y;");
        // 2 is less than 5: no word of its own is a heap told ahead.
        told(2, "heap a x;part p from ^heap to a;");
        told(2, "heap a" + " x".repeat(24) + " ^heap;");
        told(2, "heap a" + " x".repeat(24) + " ^0;");
        // 3 in its place, ahead of a 25th bar.
        told(3, "heap a" + " x".repeat(24) + ";heap ^a x;");
    }

    private static void emptyPiece() {
        told(0, "");
        told(0, " ");
        told(0, "\n");
        told(0, LAW);
        ByHeart x = new ByHeart();
        due("Terms: empty at first", x.about(0), 0);
        due("4: an empty one has no bars", x.piece(), 0);
        due("4: nor has a law alone", Check.tell(x, LAW), 0);
        due("1: heaps", x.about(1), 0);
    }

    /** Ended within a token, what lies behind the end is no part of it. */
    private static void endInTokens() {
        // text, end, fault, place
        String[] texts = {"heap a xxxxxxxxx;", "heap a x;door 0z;", "heap a x;door 00000;", "heap a x;;", "heap a x;mark 0;", "heap a x;?"};
        int[][] cases = {{15, 2, 15}, {15, 2, 15}, {18, 2, 18}, {9, 0, -1}, {15, 2, 15}, {9, 0, -1}};
        for (int i = 0; i < texts.length; i++) {
            ByHeart x = new ByHeart();
            Check.type(x, texts[i]);
            x.end(cases[i][0]);
            due("3: " + texts[i] + " ended at " + cases[i][0], x.piece(), cases[i][1] == 0 ? 1 : -1);
            dueAt("3: " + texts[i] + " ended at " + cases[i][0], x, cases[i][1], cases[i][2]);
        }
        ByHeart x = new ByHeart();
        Check.type(x, "heap a x;heap b y;");
        x.end(8);
        x.piece();
        dueAt("3: a sign cut off", x, 2, 8);
    }

    /** Another piece begins anew, be the one ahead of it one at fault or not. */
    private static void pieceOverPiece() {
        String text = "heap a x y;heap b z;part p from a to b;door 0;mark 1;law gain 500 fade 100 cross 0 weak 0 save 4 ear 2;"
                + "plan q from 0 to 2 times 1 slow 1;";
        ByHeart x = new ByHeart();
        for (int i = 0; i < 3; i++) {
            due("4: the same once more", Check.tell(x, text), 3);
            due("4: no name is told already", x.fault(0), 0);
            due("4: another fault", Check.tell(x, text + text), -1);
            dueAt("4: its own name is", x, 3, text.length() + 5);
            for (int bar = 0; bar < 3; bar++) {
                int[] want = {0, 0, 0, -1, bar / 2, bar == 0 ? 1 : 0, bar == 1 ? 1 : 0};
                for (int what = 0; what < 7; what++) {
                    due("4: bar(" + bar + ", " + what + ")", x.bar(bar, what), want[what]);
                }
            }
            int[] about = {3, 2, 1, 1, 0, 0, i * 5, 0, 0, 1 + i, 0, 0};
            for (int what = 0; what < 12; what++) {
                due("4: about(" + what + ")", x.about(what), about[what]);
            }
            due("4: no play", x.latest(0), -1);
            due("4: no box", x.again(i), -1);
            // Something of all that can be.
            x.plan(0);
            x.finger(1);
            x.play(0, 2);
            x.days(3);
            x.set(0, 2, true);
            x.set(1, 0, true);
            x.diary(0, 0, 0);
            x.paper(0, 0, true);
            Check.tellRules(x, "when 1 do q;");
            x.image(i);
            x.later(5);
            x.seed(2 + i);
        }
        due("4: one with less", Check.tell(x, "heap c u;"), 1);
        int[] less = {1, 1, 0, 0, 0, 0, 15, 0, 0, 4, 0, 0};
        for (int what = 0; what < 12; what++) {
            due("4: about(" + what + ") then", x.about(what), less[what]);
        }
        due("4: no door, no mark", x.bar(0, 5) + x.bar(0, 6), 0);
        due("7: no part", x.part(0, 0), -1);
        due("21: no plan", x.plan(0), -1);
    }

    /** Of the latest: one that is fine behind one at fault, and the other way. */
    private static void faultOver() {
        ByHeart x = new ByHeart();
        dueAt("5: of none yet", x, 0, -1);
        int[] others = {-1, 2, Integer.MAX_VALUE, Integer.MIN_VALUE};
        for (int what : others) {
            due("5: fault(" + what + ")", x.fault(what), -1);
        }
        Check.tell(x, " ?");
        dueAt("5: at fault", x, 1, 1);
        for (int what : others) {
            due("5: fault(" + what + ")", x.fault(what), -1);
        }
        Check.tell(x, "");
        dueAt("5: fine", x, 0, -1);
        Check.tellRules(x, "  x");
        dueAt("5: at fault, of rules", x, 2, 2);
        Check.tellRules(x, "");
        dueAt("5: fine, of rules", x, 0, -1);
        Check.tellRules(x, "?");
        dueAt("5: at fault, of rules", x, 1, 0);
        Check.tell(x, "heap a x;");
        dueAt("5: fine, of a piece", x, 0, -1);
    }
}
