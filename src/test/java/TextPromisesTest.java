/** Promises 1 to 5 and 22: the tape, the texts, their faults. A caret in a text is where the fault is due. */
public final class TextPromisesTest {
    private static final String OWN = "heap part from to door mark law gain fade cross weak save ear plan times slow "
            + "when do day hold head cuts least and or not";
    private static final String TWO = "heap a x y;plan q from 0 to 1 times 1 slow 0;plan r from 0 to 0 times 0 slow 1;";
    private static final Check CHECK = new Check();

    public static void main(String[] args) {
        newObject();
        tape();
        end();
        piece();
        pieceFaults();
        pieceLimits();
        fault();
        cutOff(2, 13, 13, "heap abcdefghi x;");
        cutOff(2, 15, 15, "heap a x;door 0z");
        cutOff(2, 15, 15, "heap a x;door 00");
        cutOff(2, 8, 8, "heap a x;");
        cutOff(2, 9, 9, "heap a x ;");
        rules();
        ruleFaults();
        ruleLimits();
        CHECK.finish();
    }

    private static void newObject() {
        ByHeart x = new ByHeart();
        for (int what = -1; what <= 12; what++) {
            CHECK.due("1: about(" + what + ")", x.about(what), what == 9 ? 1 : what < 0 || what > 11 ? -1 : 0);
        }
        CHECK.due("1: fault(0)", x.fault(0), 0);
        CHECK.due("1: fault(1)", x.fault(1), -1);
        CHECK.due("1: latest(0)", x.latest(0), -1);
        CHECK.due("1: piece() of nothing", x.piece(), 0);
    }

    private static void tape() {
        ByHeart x = new ByHeart();
        for (int i = 1; i <= 75; i++) {
            CHECK.due("2: feed", x.feed(0, -1, 1, 2, 3), 20 * i);
        }
        CHECK.due("2: feed to a full tape", x.feed(0, 0, 0, 0, 0), -1);
        CHECK.due("2: what is there stays", x.about(8), 1500);
        x.end(1481);
        CHECK.due("2: feed with 19 bytes of room", x.feed(0, 0, 0, 0, 0), -1);
        CHECK.due("2: nothing comes", x.about(8), 1481);
        x.end(1480);
        CHECK.due("2: feed with 20 bytes of room", x.feed(0, 0, 0, 0, 0), 1500);
        x.end(0);
        // "heap a x y z u v; b " with each number's highest byte first.
        x.feed(0x68656170, 0x20612078, 0x2079207a, 0x20752076, 0x3b206220);
        CHECK.due("2: the order of bytes", x.end(17), 17);
        CHECK.due("2: the order of bytes", x.piece(), 5);
        x.feed(0x68656170, 0x20612078, 0x2079207a, 0x20752076, 0xbb206220);
        x.piece();
        CHECK.due("2: a byte above 127 is no token", x.fault(0), 1);
        CHECK.due("2: a byte above 127 is no token", x.fault(1), 16);
    }

    private static void end() {
        ByHeart x = new ByHeart();
        CHECK.due("3: end(1) of nothing", x.end(1), -1);
        CHECK.due("3: end(0) of nothing", x.end(0), 0);
        x.feed(0, 0, 0, 0, 0);
        CHECK.due("3: end(21)", x.end(21), -1);
        CHECK.due("3: end(-1)", x.end(-1), -1);
        CHECK.due("3: nothing was done", x.about(8), 20);
        CHECK.due("3: end(20)", x.end(20), 20);
        CHECK.due("3: end(7)", x.end(7), 7);
        CHECK.due("3: about(8)", x.about(8), 7);
        CHECK.due("3: end(8)", x.end(8), -1);
    }

    private static void piece() {
        ByHeart x = Check.with(TWO);
        CHECK.due("4: the tape is empty then", x.about(8), 0);
        x.slow(0, 1);
        x.days(3);
        x.later(5);
        x.play(0, 0);
        x.finger(1);
        x.diary(1, 0, 1);
        x.paper(1, 0, true);
        x.seed(77);
        x.image(1);
        Check.tellRules(x, "when 1 do q;");
        CHECK.due("4: a fault", Check.tell(x, "heap a x"), -1);
        CHECK.due("4: a fault leaves the bars", x.about(0), 2);
        CHECK.due("4: a fault leaves what is held", x.bar(0, 1) > 0, true);
        CHECK.due("4: a fault leaves the day", x.about(7), 3);
        CHECK.due("4: a fault leaves diaries", x.about(4), 1);
        CHECK.due("4: a fault leaves papers", x.about(5), 1);
        CHECK.due("4: a fault leaves rules", x.about(10), 1);
        CHECK.due("4: a fault leaves the play", x.latest(0) >= 0, true);
        CHECK.due("4: a fault leaves boxes", x.again(1), 3);
        CHECK.due("4: another piece", Check.tell(x, "heap b u;heap c v w;door 1;mark 2;"), 3);
        int[] about = {3, 2, 0, 0, 0, 0, 5, 0, 0, 77, 0, 0};
        for (int i = 0; i < 12; i++) {
            CHECK.due("4: about(" + i + ") then", x.about(i), about[i]);
        }
        for (int i = 0; i < 3; i++) {
            CHECK.due("4: hold then", x.bar(i, 0), 0);
            CHECK.due("4: head then", x.bar(i, 1), 0);
            CHECK.due("4: old then", x.bar(i, 2), 0);
            CHECK.due("4: learnt then", x.bar(i, 3), -1);
            CHECK.due("4: box then", x.again(i), -1);
        }
        CHECK.due("4: the play then", x.latest(0), -1);
        CHECK.due("4: door", x.bar(1, 5), 1);
        CHECK.due("4: mark", x.bar(2, 6), 1);
        CHECK.due("4: no law told, so gain 100", x.slow(0, 0) + x.bar(0, 1), 101);
        CHECK.due("4: weak 500 if not told", x.behind(1, -1), 500);
        CHECK.due("4: an empty piece", x.piece(), 0);
        CHECK.due("4: no bars then", x.bar(0, 0), -1);
    }

    /** Faults of a text for piece(); 0 is none. */
    private static void told(int fault, String text) {
        CHECK.dueFault(new ByHeart(), true, fault, text);
    }

    private static void ruled(int fault, String text) {
        CHECK.dueFault(Check.with(TWO), false, fault, text);
    }

    private static void pieceFaults() {
        told(0, "");
        told(0, " \n ");
        told(0, "heap a x;");
        told(0, "\nheap\na\nx\n;\n");
        told(0, "heap abcdefgh abcdefgh;door0;mark0;");
        told(0, "heap a a;part a from a to a;plan a from 0 to 0 times 0 slow 20;door 0000;mark 0;");
        told(1, "heap ^abcdefghi x;");
        told(1, "heap a ^abcdefghi;");
        told(1, "^\theap a x;");
        told(1, "heap a x^,");
        told(1, "heap a x^(;");
        told(1, "^Heap a x;");
        told(1, "heap a x;door ^12345;");
        told(1, "heap a x;door ^00000;");
        told(1, "heap a x;door ^0x;");
        told(1, "heap a x;door ^9x;");
        told(2, "^a");
        told(2, "^;");
        told(2, "^1");
        told(2, "^from");
        told(2, "^when");
        told(2, "heap^");
        told(2, "heap \n^");
        told(2, "heap ^;");
        told(2, "heap a^;");
        told(2, "heap a x^");
        told(2, "heap a x ^1;");
        told(2, "heap a x;^;");
        told(2, "heap a x;door ^x;");
        told(2, "heap a x;door 0 ^0;");
        told(2, "heap a x;part ^1");
        told(2, "heap a x;part p ^a");
        told(2, "heap a x;part p from a ^a");
        told(2, "heap a x;part p from a to a ^a");
        told(2, "heap a x;part p from ^to");
        told(3, "heap a x;heap ^a y;");
        told(3, "heap a x;part p from a to a;part ^p from a to a;");
        told(3, "heap a x;plan p from 0 to 0 times 1 slow 1;plan ^p from 0 to 0 times 1 slow 1;");
        told(3, "heap a x;door 0;door ^0;");
        told(3, "heap a x;mark 0;mark ^00;");
        told(4, "door ^0;");
        told(4, "heap a x;door ^1;heap b y;");
        told(4, "heap a x;mark ^1;?");
        told(5, "heap a x;part p from ^b to a;");
        told(5, "heap a x;part p from a to ^b;");
        told(5, "heap a x;part p from a to ^b;heap b y;");
        told(6, "heap a x;heap b y;part p from b to ^a;");
        told(0, "heap a x;heap b y;part p from b to b;part q from a to b;");
        for (String word : OWN.split(" ")) {
            told(2, "heap ^" + word + " x;");
            told(2, "heap a ^" + word + ";");
            told(2, "heap a x;plan ^" + word + " from 0 to 0 times 0 slow 0;");
            told(0, "heap a" + word.charAt(0) + " " + word + "x;");
        }
    }

    private static void pieceLimits() {
        StringBuilder heaps = new StringBuilder();
        for (int i = 0; i < 8; i++) {
            heaps.append("heap ").append((char) ('a' + i)).append(" x x x;");
        }
        told(0, heaps.toString());
        told(2, heaps + "^heap a x;");
        told(2, heaps + "^heap");
        told(2, "heap a x x x x x x x x x x x x x x x x x x x x x x x x ^x;");
        told(1, "heap a x x x x x x x x x x x x x x x x x x x x x x x x ^X;");
        String parts = "heap a x;part p from a to a;part q from a to a;part r from a to a;part s from a to a;";
        told(0, parts);
        told(2, parts + "^part p from a to a;");
        StringBuilder plans = new StringBuilder("heap a x;");
        for (int i = 0; i < 6; i++) {
            plans.append("plan p").append((char) ('a' + i)).append(" from 0 to 0 times 0 slow 0;");
        }
        told(0, plans.toString());
        told(2, plans + "^plan pa from 0 to 0 times 0 slow 0;");
        String law = "law gain 1 fade 0 cross 0 weak 0 save 0 ear 0;";
        told(0, law);
        told(0, "law gain 500 fade 200 cross 100 weak 1000 save 24 ear 24;");
        told(2, law + "^" + law);
        told(2, "law ^fade 0");
        told(2, "law gain 1 fade 0 cross 0 weak 0 save 0^;");
        told(4, "law gain ^0");
        told(4, "law gain ^501");
        told(4, "law gain 1 fade ^201");
        told(4, "law gain 1 fade 1 cross ^101");
        told(4, "law gain 1 fade 1 cross 1 weak ^1001");
        told(4, "law gain 1 fade 1 cross 1 weak 1 save ^25");
        told(4, "law gain 1 fade 1 cross 1 weak 1 save 1 ear ^25");
        String plan = "heap a x y;plan p from ";
        told(0, plan + "1 to 1 times 20 slow 0;");
        told(4, plan + "^2 to 2 times 0 slow 0;");
        told(4, plan + "0 to ^2 times 0 slow 0;");
        told(4, plan + "1 to ^0 times 0 slow 0;");
        told(4, plan + "0 to 1 times ^21 slow 0;");
        told(4, plan + "0 to 1 times 1 slow ^21;");
        told(2, plan + "0 to 1 ^slow 1 times 1;");
    }

    private static void fault() {
        ByHeart x = Check.with(TWO);
        Check.tell(x, "heap ?");
        CHECK.due("5: fault(0)", x.fault(0), 1);
        CHECK.due("5: fault(1)", x.fault(1), 5);
        CHECK.due("5: fault(2)", x.fault(2), -1);
        CHECK.due("5: fault(-1)", x.fault(-1), -1);
        Check.type(x, " ".repeat(601));
        CHECK.due("5: rules() of too much", x.rules(), -2);
        CHECK.due("5: the fault before -2 stays", x.fault(0), 1);
        CHECK.due("5: its place, too", x.fault(1), 5);
        x.end(600);
        CHECK.due("5: rules()", x.rules(), 0);
        CHECK.due("5: none any more", x.fault(0), 0);
        CHECK.due("5: none any more", x.fault(1), -1);
        Check.tellRules(x, "when 1 do z;");
        CHECK.due("5: of rules()", x.fault(0), 5);
        CHECK.due("5: of rules()", x.fault(1), 10);
    }

    /** What lies on the tape behind its end is no part of the text. */
    private static void cutOff(int fault, int place, int n, String text) {
        ByHeart x = new ByHeart();
        Check.type(x, text);
        x.end(n);
        x.piece();
        CHECK.due("3: " + text + " cut at " + n + ": fault(0)", x.fault(0), fault);
        CHECK.due("3: " + text + " cut at " + n + ": fault(1)", x.fault(1), place);
    }

    private static void rules() {
        ByHeart x = Check.with(TWO);
        CHECK.due("22: rules()", Check.tellRules(x, "when hold 0 > 0 do r; when 1 do q;"), 2);
        CHECK.due("22: the tape is empty then", x.about(8), 0);
        CHECK.due("22: how many", x.about(10), 2);
        CHECK.due("22: their units", x.about(11), 3);
        CHECK.due("22: a fault", Check.tellRules(x, "when 1 do r;?"), -1);
        CHECK.due("22: those there are stay", x.about(10), 2);
        CHECK.due("22: their units, too", x.about(11), 3);
        CHECK.due("22: they tell as before", x.rule(), 0);
        CHECK.due("22: the tape is empty behind a fault", x.about(8), 0);
        Check.type(x, " ".repeat(601));
        CHECK.due("22: more than 600 bytes", x.rules(), -2);
        CHECK.due("22: the tape stays", x.about(8), 601);
        CHECK.due("22: those there are stay", x.about(10), 2);
        CHECK.due("22: 600 bytes", Check.tellRules(x, "when 1 do r;" + " ".repeat(588)), 1);
        CHECK.due("22: they tell", x.rule(), 1);
        CHECK.due("22: none", Check.tellRules(x, ""), 0);
        CHECK.due("22: none any more", x.about(10), 0);
        CHECK.due("22: no units", x.about(11), 0);
    }

    private static void ruleFaults() {
        ruled(0, "when 1 do q;");
        ruled(0, "when(1)do\nq;");
        ruled(0, "when hold1 do q;");
        ruled(0, "when not not 1 < 2 and 3 or day * least - 1 + head 0 = cuts 1 do q;");
        ruled(1, "when 1 ^? do q;");
        ruled(1, "when ^1do q;");
        ruled(1, "when ^12345 do q;");
        ruled(1, "when ^leastleas do q;");
        ruled(2, "^q");
        ruled(2, "^do");
        ruled(2, "when^");
        ruled(2, "when ^do q;");
        ruled(2, "when ^q do q;");
        ruled(2, "when ^- 1 do q;");
        ruled(2, "when 1 ^1 do q;");
        ruled(2, "when 1 < 2 ^< 3 do q;");
        ruled(2, "when 1 + ^not 1 do q;");
        ruled(2, "when 1 and ^or 1 do q;");
        ruled(2, "when ^and 1 do q;");
        ruled(2, "when (1 ^do q;");
        ruled(2, "when 1^) do q;");
        ruled(2, "when (^) do q;");
        ruled(2, "when hold ^day do q;");
        ruled(2, "when hold^");
        ruled(2, "when 1 do ^day;");
        ruled(2, "when 1 do ^1;");
        ruled(2, "when 1 do q^");
        ruled(2, "when 1 do q ^r;");
        ruled(4, "when hold ^2 do q;");
        ruled(4, "when head ^2 do q;");
        ruled(4, "when cuts ^9999 do q;");
        ruled(5, "when 1 do ^a;");
        ruled(5, "when 1 do ^s;?");
    }

    private static void ruleLimits() {
        String six = "when 1 do q;".repeat(6);
        ruled(0, six);
        ruled(2, six + "^when 1 do q;");
        ruled(2, six + "^when ? do");
        ruled(0, "when 1" + "+1".repeat(39) + " do q;");
        ruled(2, "when 1" + "+1".repeat(39) + "+^1 do q;");
        ruled(2, "when 1" + "*1".repeat(39) + "*^(1) do q;");
        ruled(0, "when (1" + "+1".repeat(38) + ") do q;");
        ruled(2, "when (1" + "+1".repeat(38) + "+^1) do q;");
        ruled(0, "when 1" + "+1".repeat(19) + " do q; when 1" + "+1".repeat(19) + " do q;");
        ruled(2, "when 1" + "+1".repeat(19) + " do q; when 1" + "+1".repeat(19) + " do q; when ^day do q;");
        ruled(0, "when " + "(".repeat(7) + "1" + ")".repeat(7) + " do q;");
        ruled(2, "when " + "(".repeat(7) + "^(1" + ")".repeat(8) + " do q;");
        ruled(0, "when " + "not ".repeat(7) + "1 do q;");
        ruled(2, "when " + "not ".repeat(7) + "^not 1 do q;");
        ruled(0, "when not(not(not(not 1))) do q;");
        ruled(2, "when not(not(not(not ^(1)))) do q;");
        ruled(2, "when (not(not(not( ^not 1)))) do q;");
        ruled(0, "when (((((((1))))))) + (((((((1))))))) or not(((((( 1)))))) do q;");
    }
}
