/** Where ==== 2, ==== 3 and the promises 6 to 17, 21, 26 and 39 to 42 name an edge; answers worked out by hand. */
public final class StateEdgesTest {
    private static final Check CHECK = new Check();

    public static void main(String[] args) {
        newObject();
        grows();
        fades();
        fadesLeast();
        learnt();
        barRange();
        partRange();
        set();
        alike();
        forks();
        stops();
        crosses();
        crossesAllThatIsLeft();
        savedFar();
        savedFirst();
        heard();
        drawsAtStop();
        drawsAtCross();
        drawsWrap();
        playRange();
        playEnds();
        playCrossesAtTo();
        playMarked();
        playAnew();
        playHundred();
        playHundredOtherEnds();
        slowRange();
        shown();
        latest();
        days();
        daysLimit();
        planDays();
        planLimit();
        finger();
        seed();
        boxes();
        boxesKeep();
        about();
        CHECK.finish();
    }

    private static void due(String call, long got, long want) {
        CHECK.due(call, got, want);
    }

    private static String law(int gain, int fade, int cross, int weak, int save, int ear) {
        return "law gain " + gain + " fade " + fade + " cross " + cross + " weak " + weak + " save " + save + " ear " + ear + ";";
    }

    private static String looks(int many, String look) {
        return "heap a" + (" " + look).repeat(many) + ";";
    }

    private static void bars(String call, ByHeart x, int what, int... want) {
        for (int i = 0; i < want.length; i++) {
            due(call + ": bar(" + i + ", " + what + ")", x.bar(i, what), want[i]);
        }
    }

    /** What the latest play tells: how it ended, its last bar, stops, saved, heard, crossed. */
    private static void told(String call, ByHeart x, int... want) {
        for (int i = 0; i < 6; i++) {
            due(call + ": latest(" + i + ")", x.latest(i), want[i]);
        }
    }

    /** Plays the bar alone till it is held by so much; nothing stops it. */
    private static void holdBy(ByHeart x, int bar, int hold) {
        for (int i = 0; i < 50 && x.bar(bar, 0) < hold; i++) {
            x.seed(Check.seedFor(990, 999));
            x.play(bar, bar);
        }
        due("held", x.bar(bar, 0), hold);
    }

    /** Promise 1: every call on an empty piece, with what can be taken there, and what it answers. */
    private static void newObject() {
        due("the constants: NONE", ByHeart.NONE, -1);
        ByHeart x = new ByHeart();
        int[] about = {0, 0, 0, 0, 0, 0, 0, 0, 0, 1, 0, 0};
        for (int what = 0; what < 12; what++) {
            due("1: about(" + what + ")", x.about(what), about[what]);
        }
        due("1: fault(0)", x.fault(0), 0);
        due("1: fault(1)", x.fault(1), -1);
        due("1: bar(0, 0)", x.bar(0, 0), -1);
        due("1: part(0, 0)", x.part(0, 0), -1);
        CHECK.due("1: set(0, 0, true)", x.set(0, 0, true), false);
        CHECK.due("1: set(1, 0, false)", x.set(1, 0, false), false);
        due("1: alike(0, 1)", x.alike(0, 1), -1);
        due("1: fork(0)", x.fork(0), -1);
        due("1: forks()", x.forks(), 0);
        due("1: behind(0, -1)", x.behind(0, -1), -1);
        due("1: saved(0)", x.saved(0), -1);
        due("1: play(0, 0)", x.play(0, 0), -1);
        due("1: slow(0, 0)", x.slow(0, 0), -1);
        for (int what = 0; what < 6; what++) {
            due("1: latest(" + what + ")", x.latest(what), -1);
        }
        due("1: days(0)", x.days(0), 0);
        due("1: through(0, -1, 0, 0)", x.through(0, -1, 0, 0), -1);
        due("1: put(1, 0, -1, 0, -1)", x.put(1, 0, -1, 0, -1), -1);
        due("1: plans(1, -1)", x.plans(1, -1), -1);
        due("1: plan(0)", x.plan(0), -1);
        due("1: rules()", x.rules(), 0);
        due("1: practise(0)", x.practise(0), 0);
        due("1: reach(0)", x.reach(0), -1);
        due("1: rule()", x.rule(), -1);
        due("1: finger(0)", x.finger(0), -1);
        due("1: diary(0, 0, 0)", x.diary(0, 0, 0), -1);
        due("1: paper(0, 0, true)", x.paper(0, 0, true), -1);
        CHECK.due("1: untell(false, 0)", x.untell(false, 0), false);
        CHECK.due("1: untell(true, 0)", x.untell(true, 0), false);
        due("1: cuts(0, 0)", x.cuts(0, 0), -1);
        due("1: diaries(0, 0)", x.diaries(0, 0) + x.diaries(1, 0), 0);
        due("1: luck(0, 0)", x.luck(0, 0), -1);
        due("1: hang(0, 0)", x.hang(0, 0), -1000000);
        due("1: laws(0, 0)", x.laws(0, 0), 201);
        due("1: hidden(0)", x.hidden(0), 0);
        due("1: months(0, 0)", x.months(0, 0), -1);
        due("1: back(0, 0)", x.back(0, 0), -1);
        due("1: again(0)", x.again(0), -1);
        due("1: later(0)", x.later(0), 0);
        due("1: seed(1)", x.seed(1), 1);
        due("1: image(2)", x.image(2), 0);
        due("1: again(2)", x.again(2), 0);
        due("1: piece()", x.piece(), 0);
        x = new ByHeart();
        for (int call = 1; call <= 512; call++) {
            due("What it is: call " + call + " of 512", x.seed(call + 1), call);
        }
        x = new ByHeart();
        due("17: days go on without a piece", x.days(1000), 1000);
        due("30: so does the time", x.later(1000), 1000);
        due("23: so do days by rules", x.practise(60) + x.about(7), 1060);
    }

    // ---- HOLD, HEAD, OLD, DAY, LEARNT ----

    private static void grows() {
        ByHeart x = Check.with("heap a x;" + law(500, 0, 0, 0, 0, 0));
        // More by (1000 - it) / 2, cut: 999 is the most there can be.
        int[] hold = {0, 500, 750, 875, 937, 968, 984, 992, 996, 998, 999, 999, 999};
        for (int want : hold) {
            due("==== 2: hold", x.bar(0, 0), want);
            due("14: one bar", x.play(0, 0), 1);
        }
        x = Check.with("heap a x;" + law(500, 0, 0, 0, 0, 0));
        int[] slowly = {0, 250, 437, 577, 682, 761, 820, 865, 898, 923, 942, 956, 967, 975, 981, 985, 988, 991, 993, 994, 995, 996, 997, 997};
        for (int want : slowly) {
            due("==== 3: hold by 250", x.bar(0, 0), want);
            x.slow(0, 0);
        }
        due("==== 3: head by 500", x.bar(0, 1), 999);
        x = Check.with("heap a x;" + law(1, 0, 0, 0, 0, 0));
        x.play(0, 0);
        due("==== 2: 1000 * 1 / 1000", x.bar(0, 0), 1);
        x.play(0, 0);
        due("==== 2: 999 * 1 / 1000 is 0", x.bar(0, 0), 1);
        x = Check.with("heap a x;" + law(3, 0, 0, 0, 0, 0));
        x.slow(0, 0);
        due("15: gain / 2 is cut", x.bar(0, 0), 1);
        due("15: gain", x.bar(0, 1), 3);
        x.slow(0, 0);
        due("15: 997 * 3 / 1000 is 2", x.bar(0, 1), 5);
    }

    private static void fades() {
        ByHeart x = Check.with("heap a x;" + law(500, 2, 0, 0, 0, 0));
        x.slow(0, 0);
        x.play(0, 0);
        x.finger(0);
        x.play(0, 0);
        // Hold 500, head 500, old 250 + 375.
        due("==== 2: old", x.bar(0, 2), 625);
        x.days(1);
        due("==== 2: 500 * 2 / 1000 is 1", x.bar(0, 0), 499);
        due("==== 2: of the head, too", x.bar(0, 1), 499);
        due("==== 2: 625 * 2 / 1000 is 1", x.bar(0, 2), 624);
        x.days(1);
        due("==== 2: 499 * 2 / 1000 is 0", x.bar(0, 0), 499);
        due("==== 2: of the head, too", x.bar(0, 1), 499);
        due("==== 2: old", x.bar(0, 2), 623);
        x.days(1000);
        due("==== 2: old", x.bar(0, 2), 499);
        due("==== 2: what is cut off stays", x.bar(0, 0), 499);
    }

    private static void fadesLeast() {
        ByHeart x = Check.with("heap a x;" + law(500, 200, 0, 0, 0, 0));
        x.play(0, 0);
        int[] hold = {500, 400, 320, 256, 205, 164, 132, 106, 85, 68, 55, 44, 36, 29, 24, 20, 16, 13, 11, 9, 8, 7, 6, 5, 4, 4, 4};
        for (int i = 0; i < hold.length; i++) {
            due("==== 2: behind " + i + " days", x.bar(0, 0), hold[i]);
            x.days(1);
        }
        int[][] other = {{0, 500}, {1, 500}};
        for (int[] o : other) {
            x = Check.with("heap a x;" + law(500, o[0], 0, 0, 0, 0));
            x.play(0, 0);
            x.days(1000);
            due("==== 2: fade " + o[0] + ", never less", x.bar(0, 0), o[1]);
        }
    }

    private static void learnt() {
        ByHeart x = Check.with("heap a x y z;" + law(1, 0, 0, 0, 0, 0));
        x.days(3);
        x.slow(0, 0);
        bars("==== 2: hold 0 is not above 0", x, 3, -1, -1, -1);
        due("==== 2: known all the same", x.bar(0, 1), 1);
        x.play(0, 0);
        bars("==== 2: hold 1 is", x, 3, 3, -1, -1);
        x.days(2);
        x.play(0, 1);
        bars("==== 2: when it first was", x, 3, 3, 5, -1);
        x.finger(0);
        bars("==== 2: hold 0 then", x, 0, 0, 1, 0);
        bars("26: learnt stays", x, 3, 3, 5, -1);
        x.days(1);
        x.play(0, 0);
        bars("26: learnt stays", x, 3, 3, 5, -1);
    }

    // ---- promises 6 to 11 ----

    private static void barRange() {
        ByHeart x = Check.with(looks(23, "x") + "heap b y;door 23;mark 23;door 0;mark 0;");
        int[][] want = {{0, 0, 0, -1, 0, 1, 1}, {0, 0, 0, -1, 1, 1, 1}};
        for (int what = 0; what < 7; what++) {
            due("6: bar(0, " + what + ")", x.bar(0, what), want[0][what]);
            due("6: bar(23, " + what + ")", x.bar(23, what), want[1][what]);
            due("6: bar(22, 4)", x.bar(22, 4), 0);
            int[] none = {-1, 24, Integer.MAX_VALUE, Integer.MIN_VALUE};
            for (int bar : none) {
                due("6: bar(" + bar + ", " + what + ")", x.bar(bar, what), -1);
            }
        }
        int[] others = {-1, 7, Integer.MAX_VALUE, Integer.MIN_VALUE};
        for (int what : others) {
            due("6: bar(0, " + what + ")", x.bar(0, what), -1);
            due("6: bar(23, " + what + ")", x.bar(23, what), -1);
        }
    }

    private static void partRange() {
        ByHeart x = Check.with("heap a x;heap b y z;part p from a to a;part q from a to b;part r from b to b;part s from b to b;");
        int[][] want = {{0, 0}, {0, 2}, {1, 2}, {1, 2}};
        for (int part = -1; part <= 4; part++) {
            for (int what = -1; what <= 2; what++) {
                boolean can = part >= 0 && part < 4 && what >= 0 && what < 2;
                due("7: part(" + part + ", " + what + ")", x.part(part, what), can ? want[part][what] : -1);
            }
        }
        due("7: far out", x.part(Integer.MAX_VALUE, 0) + x.part(Integer.MIN_VALUE, 0), -2);
        due("7: without parts", Check.with("heap a x;").part(0, 0), -1);
    }

    private static void set() {
        for (int what = 0; what < 2; what++) {
            ByHeart x = Check.with(looks(24, "x"));
            for (int bar = 0; bar < 24; bar++) {
                CHECK.due("8: no such one there", x.set(what, bar, false), false);
                CHECK.due("8: one more", x.set(what, bar, true), true);
                CHECK.due("8: there already", x.set(what, bar, true), false);
                due("8: it is there", x.bar(bar, 5 + what), 1);
                due("8: of the other kind none", x.bar(bar, 6 - what), 0);
            }
            CHECK.due("8: no more", x.set(what, 23, false), true);
            CHECK.due("8: not there any more", x.set(what, 23, false), false);
            due("8: gone", x.bar(23, 5 + what), 0);
            due("8: the one ahead stays", x.bar(22, 5 + what), 1);
            int[] none = {-1, 24, 32, 31, Integer.MAX_VALUE, Integer.MIN_VALUE};
            for (int bar : none) {
                CHECK.due("8: set(" + what + ", " + bar + ", true)", x.set(what, bar, true), false);
                CHECK.due("8: set(" + what + ", " + bar + ", false)", x.set(what, bar, false), false);
            }
            due("8: bar 0 stays as it was", x.bar(0, 5 + what), 1);
        }
        ByHeart x = Check.with("heap a x;");
        int[] others = {-1, 2, Integer.MAX_VALUE, Integer.MIN_VALUE};
        for (int what : others) {
            CHECK.due("8: set(" + what + ", 0, true)", x.set(what, 0, true), false);
            CHECK.due("8: set(" + what + ", 0, false)", x.set(what, 0, false), false);
        }
        due("8: nothing is done", x.bar(0, 5) + x.bar(0, 6), 0);
    }

    private static void alike() {
        ByHeart x = Check.with(looks(24, "x"));
        int[][] cases = {{0, 1, 1}, {0, 23, 1}, {7, 8, 8}, {7, 23, 8}, {8, 9, 9}, {8, 23, 9}, {9, 10, 9}, {22, 23, 9}};
        for (int[] c : cases) {
            due("9: alike(" + c[0] + ", " + c[1] + ")", x.alike(c[0], c[1]), c[2]);
            due("9: alike(" + c[1] + ", " + c[0] + ")", x.alike(c[1], c[0]), c[2]);
        }
        int[] none = {-1, 24, Integer.MAX_VALUE, Integer.MIN_VALUE};
        for (int bar : none) {
            due("9: alike(" + bar + ", 0)", x.alike(bar, 0), -1);
            due("9: alike(0, " + bar + ")", x.alike(0, bar), -1);
            due("9: alike(" + bar + ", " + bar + ")", x.alike(bar, bar), -1);
        }
        due("9: both are one", x.alike(0, 0), -1);
        due("9: both are one", x.alike(23, 23), -1);
        // Not further than the first that is not the same, though those behind it are again.
        x = Check.with("heap a x y z;heap b x w z;");
        due("9: one", x.alike(2, 5), 1);
        due("9: 0", x.alike(1, 4), 0);
        due("9: over heaps", Check.with("heap a x;heap b y x;heap c y;").alike(1, 3), 2);
    }

    private static void forks() {
        ByHeart x = Check.with(looks(24, "x"));
        due("11: behind the last one is nothing", x.forks(), 23);
        for (int i = 0; i < 23; i++) {
            due("10: fork(" + i + ")", x.fork(i), 100 * i + 23);
        }
        int[] none = {-1, 23, Integer.MAX_VALUE, Integer.MIN_VALUE};
        for (int i : none) {
            due("10: fork(" + i + ")", x.fork(i), -1);
        }
        x = Check.with("heap a x y x z;");
        due("11: one", x.forks(), 1);
        due("10: the first", x.fork(0), 2);
        due("10: no second", x.fork(1), -1);
        x = Check.with("heap a x y x y;");
        due("11: x is none, y is", x.forks(), 1);
        due("10: only one has anything behind it", x.fork(0), 103);
        x = Check.with("heap a x;");
        due("11: none of one bar", x.forks(), 0);
        due("10: none", x.fork(0), -1);
        // By the first, then by the second.
        x = Check.with("heap a x p x q x r;");
        int[] want = {2, 4, 204};
        due("11: three", x.forks(), 3);
        for (int i = 0; i < 3; i++) {
            due("10: fork(" + i + ")", x.fork(i), want[i]);
        }
    }

    // ---- BEHIND, SAVED, HEARD ----

    private static void stops() {
        int[][] cases = {{0, 0}, {1, 1}, {999, 999}, {1000, 1000}};
        for (int[] c : cases) {
            ByHeart x = Check.with("heap a x y;" + law(1, 0, 0, c[0], 0, 0));
            due("12: weak " + c[0] + ", nothing held", x.behind(0, -1), c[1]);
            due("12: the rest goes on", x.behind(0, -2), 1000 - c[1]);
        }
        ByHeart x = Check.with("heap a x y;" + law(500, 0, 0, 1000, 0, 0));
        for (int i = 0; i < 30; i++) {
            x.slow(0, 0);
        }
        due("12: held by 997", x.behind(0, -1), 3);
        due("12: the last one goes on to the end", x.behind(1, -2), 0);
        x = Check.with("heap a x;" + law(1, 0, 0, 1, 0, 0));
        due("12: 1000 * 1 / 1000", x.behind(0, -1), 1);
        x.seed(Check.seedFor(1, 999));
        x.play(0, 0);
        due("12: 999 * 1 / 1000 is 0", x.behind(0, -1), 0);
        x = Check.with(looks(24, "x"));
        int[][] none = {{-1, -1}, {24, -1}, {0, -3}, {0, 24}, {0, 0}, {23, 23}, {24, 24}, {-1, -2}, {24, -2},
            {Integer.MAX_VALUE, -1}, {Integer.MIN_VALUE, -1}, {0, Integer.MAX_VALUE}, {0, Integer.MIN_VALUE}};
        for (int[] n : none) {
            due("12: behind(" + n[0] + ", " + n[1] + ")", x.behind(n[0], n[1]), -1);
        }
        int[][] some = {{0, -2, 500}, {0, -1, 500}, {0, 1, 0}, {0, 23, 0}, {23, 0, 0}, {23, 22, 0}, {23, -1, 500}, {23, -2, 500}};
        for (int[] s : some) {
            due("12: behind(" + s[0] + ", " + s[1] + ")", x.behind(s[0], s[1]), s[2]);
        }
    }

    private static void crosses() {
        int[][] cases = {{0, 0}, {1, 0}, {2, 1}, {3, 1}, {4, 2}, {100, 50}};
        for (int[] c : cases) {
            ByHeart x = Check.with("heap a x y;heap b x z;" + law(500, 0, c[0], 0, 0, 0));
            x.play(0, 0);
            due("12: 500 * 1 * " + c[0] + " / 1000", x.behind(2, 0), c[1]);
            due("12: the rest", x.behind(2, -2), 1000 - c[1]);
            due("12: of its own hold nothing", x.behind(0, 2), 0);
            due("12: not alike", x.behind(2, 1) + x.behind(2, 3), 0);
            CHECK.due("8: a mark", x.set(1, 2, true), true);
            due("12: none with a mark", x.behind(2, 0), 0);
            due("12: all goes on", x.behind(2, -2), 1000);
            CHECK.due("8: a mark where it would cross to", x.set(1, 2, false) && x.set(1, 0, true), true);
            due("12: is none against it", x.behind(2, 0), c[1]);
        }
    }

    private static void crossesAllThatIsLeft() {
        // Bars 8 and 9 are alike by 9; of bar 10 they are the two to cross to.
        ByHeart x = Check.with(looks(11, "x") + law(500, 0, 100, 500, 0, 0));
        holdBy(x, 8, 500);
        holdBy(x, 9, 500);
        due("12: 500 * 9 * 100 / 1000, all but 50", x.behind(10, 8), 450);
        due("12: no more than is left", x.behind(10, 9), 50);
        due("12: nothing goes on", x.behind(10, -2), 0);
        due("12: stop", x.behind(10, -1), 500);
        // As bar 8 is known better, all that is left goes there.
        holdBy(x, 8, 750);
        due("12: 675 is more than 500", x.behind(10, 8), 500);
        due("12: nothing is left", x.behind(10, 9), 0);
        due("12: nothing goes on", x.behind(10, -2), 0);
        x.set(1, 10, true);
        due("12: a mark", x.behind(10, -2), 500);
        // A stop that is all leaves nothing for others.
        x = Check.with(looks(2, "x") + law(500, 0, 100, 1000, 0, 0));
        x.slow(1, 1);
        due("12: stop 1000", x.behind(0, -1), 1000);
        due("12: nothing is left to cross", x.behind(0, 1), 0);
        due("12: nothing goes on", x.behind(0, -2), 0);
        // Just as much as is left.
        x = Check.with(looks(10, "x") + law(500, 0, 100, 550, 0, 0));
        x.slow(9, 9);
        x.slow(9, 9);
        // 437 * 9 / 10 is 393; 450 are left.
        due("12: fewer than are left", x.behind(8, 9), 393);
        due("12: the rest goes on", x.behind(8, -2), 57);
    }

    private static void savedFar() {
        // One door at the last of 24 bars.
        int[][] cases = {{24, 0, 23}, {23, 0, 23}, {22, 0, -1}, {22, 1, 23}, {1, 22, 23}, {1, 21, -1}, {0, 22, -1}, {24, 23, -1}};
        for (int[] c : cases) {
            ByHeart x = Check.with(looks(24, "x") + "door 23;" + law(1, 0, 0, 500, c[0], 0));
            due("13: save " + c[0] + ", saved(" + c[1] + ")", x.saved(c[1]), c[2]);
        }
        ByHeart x = Check.with(looks(24, "x") + "door 0;door 23;");
        int[] none = {-1, 24, 23, 18, Integer.MAX_VALUE, Integer.MIN_VALUE};
        for (int bar : none) {
            due("13: saved(" + bar + ")", x.saved(bar), -1);
        }
        due("13: four bars", x.saved(19), 23);
        due("13: without doors", Check.with("heap a x y;").saved(0), -1);
    }

    private static void savedFirst() {
        ByHeart x = Check.with(looks(8, "x") + "door 2;door 3;door 6;" + law(1, 0, 0, 500, 2, 0));
        int[] want = {2, 2, 3, -1, 6, 6, -1, -1};
        for (int i = 0; i < 8; i++) {
            due("13: saved(" + i + ")", x.saved(i), want[i]);
        }
        x.set(0, 4, true);
        x.set(0, 2, false);
        // One at bar 0 is no more saved by bar 2; bar 3 is too far.
        int[] then = {-1, 3, 3, 4, 6, 6, -1, -1};
        for (int i = 0; i < 8; i++) {
            due("13: then saved(" + i + ")", x.saved(i), then[i]);
        }
    }

    private static void heard() {
        // Stopped at bar 0 for sure, saved three bars farther on, from there to the end for sure.
        int[][] cases = {{0, 1}, {2, 1}, {3, 0}, {24, 0}};
        for (int[] c : cases) {
            ByHeart x = Check.with("heap a x y z u;door 3;" + law(500, 0, 0, 1000, 3, c[0]));
            for (int i = 0; i < 40; i++) {
                x.slow(3, 3);
            }
            due("18: ear " + c[0] + ", heard", x.through(0, 0, 1000, 3) - x.through(0, 0, 1000, 1), c[1] * 1000000);
            x.seed(Check.seedForRow(new int[] {1, 0, 999}, new int[] {1, 3, 999}));
            due("14: two bars", x.play(0, 3), 2);
            told("16: ear " + c[0], x, 0, 3, 1, 1, c[1], 0);
        }
        // One that is lost is heard, however far ear goes.
        ByHeart x = Check.with("heap a x;" + law(1, 0, 0, 1000, 24, 24));
        x.play(0, 0);
        told("16: lost", x, 2, 0, 1, 0, 1, 0);
    }

    // ---- PLAY ----

    private static void drawsAtStop() {
        // weak, draw, how it ends: 0 on, 2 lost.
        int[][] cases = {{0, 0, 0}, {1, 0, 2}, {1, 1, 0}, {500, 499, 2}, {500, 500, 0}, {999, 998, 2}, {999, 999, 0}, {1000, 999, 2}, {1000, 0, 2}};
        for (int[] c : cases) {
            ByHeart x = Check.with("heap a x;" + law(100, 0, 100, c[0], 0, 0));
            x.seed(Check.seedFor(c[1], c[1]));
            x.play(0, 0);
            due("14: weak " + c[0] + ", a draw of " + c[1], x.latest(0), c[2]);
            due("14: what grows", x.bar(0, 0), c[2] == 0 ? 100 : 0);
            due("16: stops", x.latest(2), c[2] / 2);
            due("16: heard", x.latest(4), c[2] / 2);
        }
    }

    private static void drawsAtCross() {
        // Behind bar 4: stop 100, cross to 0 by 50, to 2 by 75, on 775.
        int[][] cases = {{99, -1}, {100, 0}, {149, 0}, {150, 2}, {224, 2}, {225, 4}, {999, 4}, {0, -1}};
        for (int[] c : cases) {
            ByHeart x = Check.with("heap a x p;heap b x q;heap c x;" + law(500, 0, 100, 100, 0, 0));
            holdBy(x, 0, 500);
            holdBy(x, 2, 750);
            due("12: stop", x.behind(4, -1), 100);
            due("12: cross to 0", x.behind(4, 0), 50);
            due("12: cross to 2", x.behind(4, 2), 75);
            due("12: on", x.behind(4, -2), 775);
            // Behind a cross it stops at the next bar, which is not held and has no door above.
            x.seed(Check.seedForRow(new int[] {1, c[0], c[0]}, new int[] {1, 0, 99}));
            due("14: how many bars", x.play(4, 4), c[1] == 0 || c[1] == 2 ? 2 : 1);
            bars("14: a draw of " + c[0], x, 0, c[1] == 0 ? 750 : 500, 0, c[1] == 2 ? 875 : 750, 0, c[1] == 4 ? 500 : 0);
            if (c[1] == 4) {
                told("16: on", x, 0, 4, 0, 0, 0, 0);
            } else if (c[1] == -1) {
                told("16: stopped", x, 2, 4, 1, 0, 1, 0);
            } else {
                told("16: crossed, then stopped", x, 2, c[1] + 1, 1, 0, 1, 1);
            }
        }
    }

    private static void drawsWrap() {
        // 2000000000 * 1103515245 + 12345 is 2207030490000012345; by 4294967296 it leaves 2364027961, which is -1930939335.
        ByHeart x = Check.with("heap a x;" + law(1, 0, 0, 0, 0, 0));
        due("39: 1 at first", x.seed(2000000000), 1);
        x.play(0, 0);
        due("==== 3: w wraps", x.about(9), -1930939335);
        x.seed(-1);
        x.play(0, 0);
        due("==== 3: w below 0", x.about(9), -1103502900);
        x.seed(0);
        x.play(0, 0);
        due("==== 3: w 0", x.about(9), 12345);
        // -1103502900 >>> 16 is 48697 (3191464396 / 65536, cut): a draw of 697.
        int[][] cases = {{697, 0}, {698, 2}};
        for (int[] c : cases) {
            x = Check.with("heap a x;" + law(1, 0, 0, c[0], 0, 0));
            x.seed(-1);
            x.play(0, 0);
            due("==== 3: without the sign, weak " + c[0], x.latest(0), c[1]);
        }
    }

    private static void playRange() {
        String piece = looks(24, "x") + law(500, 0, 0, 0, 0, 0);
        int[][] some = {{0, 0, 1}, {0, 23, 24}, {23, 23, 1}, {22, 23, 2}, {0, 22, 23}};
        for (int[] s : some) {
            ByHeart x = Check.with(piece);
            due("14: play(" + s[0] + ", " + s[1] + ")", x.play(s[0], s[1]), s[2]);
            told("16: at the bar to", x, 0, s[1], 0, 0, 0, 0);
            due("14: the first", x.bar(s[0], 0), 500);
            due("14: the last", x.bar(s[1], 0), 500);
        }
        ByHeart x = Check.with(piece);
        int[][] none = {{-1, 0}, {-1, -1}, {0, 24}, {24, 24}, {1, 0}, {23, 22}, {0, -1}, {Integer.MIN_VALUE, 0},
            {0, Integer.MAX_VALUE}, {Integer.MAX_VALUE, Integer.MAX_VALUE}};
        for (int[] n : none) {
            due("14: play(" + n[0] + ", " + n[1] + ")", x.play(n[0], n[1]), -1);
            due("15: slow(" + n[0] + ", " + n[1] + ")", x.slow(n[0], n[1]), -1);
        }
        due("14: nothing is done", x.about(9) + x.bar(0, 0) + x.bar(23, 0) + x.bar(0, 1), 1);
        due("16: none is told", x.latest(0), -1);
    }

    private static void playEnds() {
        // By on at the bar to, which is the last one as well: at the bar to.
        ByHeart x = Check.with("heap a x y;" + law(500, 0, 0, 0, 0, 0));
        x.play(0, 1);
        told("16: at the bar to", x, 0, 1, 0, 0, 0, 0);
        // Saved behind the bar to, it goes on to the end.
        x = Check.with("heap a x y z;door 1;" + law(500, 0, 0, 1000, 4, 0));
        for (int i = 0; i < 40; i++) {
            x.slow(1, 2);
        }
        x.seed(Check.seedForRow(new int[] {1, 0, 999}, new int[] {2, 3, 999}));
        due("14: three bars", x.play(0, 0), 3);
        told("16: at the end", x, 1, 2, 1, 1, 1, 0);
        // Stopped at the bar to, saved: it goes on.
        x = Check.with("heap a x y;door 1;" + law(500, 0, 0, 1000, 4, 1));
        due("14: two bars", x.play(0, 0), 2);
        told("16: lost at the door", x, 2, 1, 2, 1, 1, 0);
    }

    private static void playCrossesAtTo() {
        // From bar 2 (the bar to) it crosses behind bar 0, plays bar 1, comes to bar 2 again and ends there by on.
        String piece = "heap a x y;heap b x z;" + law(500, 0, 100, 0, 0, 0);
        ByHeart x = Check.with(piece);
        holdBy(x, 0, 500);
        due("12: cross", x.behind(2, 0), 50);
        x.seed(Check.seedForRow(new int[] {1, 0, 49}, new int[] {1, 0, 999}, new int[] {1, 75, 999}));
        due("14: three bars", x.play(2, 2), 3);
        told("16: crossed once, then at the bar to", x, 0, 2, 0, 0, 0, 1);
        bars("14: the link of 0, then 1, then 2", x, 0, 750, 500, 500, 0);
        // The link of the bar to, taken by a cross from another one, does not end it.
        x = Check.with(piece);
        holdBy(x, 2, 500);
        x.seed(Check.seedFor(0, 49));
        due("14: bar 0, then bar 3, behind the link of bar 2", x.play(0, 2), 2);
        told("16: at the end", x, 1, 3, 0, 0, 0, 1);
        // A cross from the last one's place: to behind the last bar is the end.
        x = Check.with("heap a x y;heap b x;" + law(500, 0, 100, 0, 0, 0));
        holdBy(x, 2, 500);
        x.seed(Check.seedFor(0, 49));
        due("14: one bar", x.play(0, 2), 1);
        told("16: at the end", x, 1, 0, 0, 0, 0, 1);
    }

    /** Bar 9 crosses by 899 to bar 8, so that it comes to bar 9 again; else it goes on. */
    private static ByHeart circle(int weak) {
        ByHeart x = Check.with(looks(10, "x") + law(500, 0, 100, weak, 0, 0));
        holdBy(x, 8, 999);
        due("12: stop", x.behind(9, -1), weak);
        due("12: cross", x.behind(9, 8), 899);
        due("12: on", x.behind(9, -2), 101 - weak);
        return x;
    }

    /** So many draws that cross, then one of these; behind a weak of 50 those below it stop. */
    private static int seedForCircle(int weak, int many, int least, int most) {
        return Check.seedForRow(new int[] {many, weak, weak + 898}, new int[] {1, least, most});
    }

    private static void playHundred() {
        ByHeart x = circle(0);
        x.seed(seedForCircle(0, 98, 899, 999));
        due("14: 99 bars", x.play(9, 9), 99);
        told("16: at the bar to", x, 0, 9, 0, 0, 0, 98);
        x = circle(0);
        x.seed(seedForCircle(0, 99, 899, 999));
        due("14: at the bar to by the 100th", x.play(9, 9), 100);
        told("16: at the bar to", x, 0, 9, 0, 0, 0, 99);
        x = circle(0);
        x.seed(seedForCircle(0, 100, 899, 999));
        int w = x.about(9);
        for (int i = 0; i < 100; i++) {
            w = w * 1103515245 + 12345;
        }
        due("14: behind 100 bars", x.play(9, 9), 100);
        told("16: behind 100 bars", x, 3, 9, 0, 0, 0, 100);
        due("14: a draw for each of them, none more", x.about(9), w);
    }

    private static void playHundredOtherEnds() {
        ByHeart x = circle(50);
        x.seed(seedForCircle(50, 99, 0, 49));
        due("14: lost at the 100th", x.play(9, 9), 100);
        told("16: lost", x, 2, 9, 1, 0, 1, 99);
        // A bar more behind bar 9, with a door.
        x = Check.with(looks(10, "x") + "heap b y;door 10;" + law(500, 0, 100, 50, 1, 1));
        holdBy(x, 8, 999);
        x.seed(seedForCircle(50, 99, 0, 49));
        due("14: saved at the 100th", x.play(9, 9), 100);
        told("16: behind 100 bars", x, 3, 9, 1, 1, 0, 99);
        // It stops at bar 7, is saved at bar 9, goes round there, then on behind the last bar; the bar to is bar 7.
        int[] stop = {1, 0, 49};
        int[] cross = {98, 50, 948};
        x = Check.with(looks(10, "x") + "door 9;" + law(500, 0, 100, 50, 2, 1));
        holdBy(x, 8, 999);
        x.seed(Check.seedForRow(stop, cross, new int[] {1, 949, 999}));
        due("14: at the end by the 100th", x.play(7, 7), 100);
        told("16: at the end", x, 1, 9, 1, 1, 1, 98);
    }

    private static void playMarked() {
        // Bar 2 would cross to bar 0 by 50: with a mark the draw that would goes on.
        for (int draw = 0; draw <= 50; draw += 49) {
            ByHeart x = Check.with("heap a x y;heap b x z;mark 2;" + law(500, 0, 100, 0, 0, 0));
            holdBy(x, 0, 500);
            x.seed(Check.seedFor(draw, draw));
            due("14: one bar", x.play(2, 2), 1);
            told("16: at the bar to", x, 0, 2, 0, 0, 0, 0);
            bars("14: its own link", x, 0, 500, 0, 500, 0);
        }
        // The 24th bar's mark, and the others' not.
        ByHeart x = Check.with(looks(24, "x") + "mark 23;" + law(500, 0, 100, 0, 0, 0));
        holdBy(x, 22, 999);
        x.seed(Check.seedFor(0, 898));
        due("14: on at bar 23", x.play(23, 23), 1);
        due("14: crossed", x.latest(5), 0);
    }

    /** Nothing of the play ahead is counted in the next one. */
    private static void playAnew() {
        ByHeart x = Check.with("heap a x y z;door 1;" + law(500, 0, 0, 1000, 4, 0));
        x.play(0, 2);
        told("16: saved, then lost", x, 2, 1, 2, 1, 2, 0);
        for (int i = 0; i < 40; i++) {
            x.slow(2, 2);
        }
        x.seed(Check.seedFor(500, 999));
        x.play(2, 2);
        told("16: on", x, 0, 2, 0, 0, 0, 0);
    }

    private static void slowRange() {
        String piece = looks(24, "x") + law(300, 0, 0, 0, 0, 0);
        int[][] some = {{0, 0, 1}, {0, 23, 24}, {23, 23, 1}, {22, 23, 2}, {5, 8, 4}};
        for (int[] s : some) {
            ByHeart x = Check.with(piece);
            due("15: slow(" + s[0] + ", " + s[1] + ")", x.slow(s[0], s[1]), s[2]);
            for (int bar = 0; bar < 24; bar++) {
                int in = bar >= s[0] && bar <= s[1] ? 1 : 0;
                due("15: head of " + bar, x.bar(bar, 1), 300 * in);
                due("15: hold of " + bar, x.bar(bar, 0), 150 * in);
            }
            due("15: without a draw", x.about(9), 1);
            due("16: it is no play", x.latest(0), -1);
        }
    }

    private static void shown() {
        int[][] cases = {{299, 1}, {300, 0}, {301, 0}, {1, 1}};
        for (int[] c : cases) {
            ByHeart x = Check.with("heap a x;" + law(c[0], 0, 0, 0, 0, 0));
            due("15: head 0", x.slow(0, 0), 1);
            due("15: head " + c[0], x.slow(0, 0), c[1]);
        }
        // Each is seen as it is before it grows.
        ByHeart x = Check.with("heap a x y z;" + law(299, 0, 0, 0, 0, 0));
        x.slow(0, 1);
        x.slow(0, 0);
        due("15: 508, 299, 0", x.slow(0, 2), 2);
    }

    private static void latest() {
        ByHeart x = Check.with("heap a x y;" + law(500, 0, 0, 0, 0, 0));
        for (int what = -1; what <= 6; what++) {
            due("16: without one: latest(" + what + ")", x.latest(what), -1);
        }
        x.play(0, 0);
        int[] others = {-1, 6, Integer.MAX_VALUE, Integer.MIN_VALUE};
        for (int what : others) {
            due("16: latest(" + what + ")", x.latest(what), -1);
        }
        told("16: one", x, 0, 0, 0, 0, 0, 0);
        x.play(1, 1);
        x.play(1, 0);
        x.play(0, 2);
        told("16: those that can't be leave it", x, 0, 1, 0, 0, 0, 0);
        Check.tell(x, "heap ?");
        told("16: a fault leaves it", x, 0, 1, 0, 0, 0, 0);
        Check.tell(x, "heap a x y;");
        due("16: behind another piece", x.latest(0), -1);
    }

    // ---- days, plans ----

    private static void days() {
        ByHeart x = Check.with("heap a x;" + law(500, 200, 0, 0, 0, 0));
        x.play(0, 0);
        due("17: none", x.days(0), 0);
        due("17: nothing fades", x.bar(0, 0), 500);
        due("17: one", x.days(1), 1);
        due("17: faded", x.bar(0, 0), 400);
        int[] refused = {-1, 1001, Integer.MAX_VALUE, Integer.MIN_VALUE};
        for (int n : refused) {
            due("17: days(" + n + ")", x.days(n), -1);
            due("17: days(" + n + ") does nothing", x.about(7) * 1000 + x.bar(0, 0), 1400);
        }
        due("17: three", x.days(3), 4);
        due("17: each of them", x.bar(0, 0), 205);
        due("17: 1,000", x.days(1000), 1004);
        due("17: each of them", x.bar(0, 0), 4);
    }

    private static ByHeart onDay(int day) {
        ByHeart x = Check.with("heap a x;" + law(500, 100, 0, 0, 0, 0) + "plan q from 0 to 0 times 1 slow 0;plan r from 0 to 0 times 0 slow 0;");
        while (x.about(7) < day) {
            x.days(Math.min(1000, day - x.about(7)));
        }
        x.play(0, 0);
        return x;
    }

    private static void daysLimit() {
        ByHeart x = onDay(99000);
        due("17: to 100,000", x.days(1000), 100000);
        due("17: above it", x.days(1), -1);
        due("17: above it", x.days(1000), -1);
        due("17: none is not", x.days(0), 100000);
        x = onDay(99001);
        due("17: above 100,000", x.days(1000), -1);
        due("17: nothing is done", x.bar(0, 0), 500);
        due("17: to 100,000", x.days(999), 100000);
    }

    private static void planDays() {
        ByHeart x = Check.with("heap a x y z;" + law(500, 200, 0, 0, 0, 0) + "plan o from 0 to 2 times 0 slow 0;"
                + "plan m from 0 to 2 times 20 slow 20;plan q from 2 to 2 times 1 slow 1;");
        due("21: no pass at all is a day", x.plan(0), 1);
        bars("21: none is held", x, 0, 0, 0, 0);
        bars("21: none is learnt", x, 3, -1, -1, -1);
        due("21: the last plan, the last bar", x.plan(2), 2);
        // Held 500, then 625; known 500; less by a fifth of it.
        bars("21: hold", x, 0, 0, 0, 500);
        bars("21: head", x, 1, 0, 0, 400);
        bars("21: learnt on the day that ended so", x, 3, -1, -1, 1);
        due("21: twenty of each", x.plan(1), 3);
        bars("21: hold 999, less by 199", x, 0, 800, 800, 800);
        bars("21: head 999, less by 199", x, 1, 800, 800, 800);
        due("16: no play", x.latest(0), -1);
        due("21: without a draw", x.about(9), 1);
        int[] none = {-1, 3, Integer.MAX_VALUE, Integer.MIN_VALUE};
        for (int plan : none) {
            due("21: plan(" + plan + ")", x.plan(plan), -1);
        }
        due("21: nothing is done", x.about(7), 3);
        due("21: without plans", Check.with("heap a x;").plan(0), -1);
        due("21: without a piece", new ByHeart().plan(0), -1);
    }

    private static void planLimit() {
        ByHeart x = onDay(99999);
        due("21: to 100,000", x.plan(0), 100000);
        // Held 500, then 750, less by 75.
        due("21: done", x.bar(0, 0), 675);
        due("21: above it", x.plan(0), -1);
        due("21: above it", x.plan(1), -1);
        due("21: nothing is done", x.bar(0, 0), 675);
        due("21: the day stays", x.about(7), 100000);
        // What plans would bring is asked all the same.
        due("20: best plans", x.plans(1, 0), 0);
    }

    // ---- promises 26, 39 to 42 ----

    private static void finger() {
        ByHeart x = Check.with(looks(24, "x") + law(500, 0, 0, 0, 0, 0));
        due("26: of nothing", x.finger(0), 0);
        due("26: old is 0", x.bar(0, 2), 0);
        x.slow(23, 23);
        due("26: the last bar", x.finger(23), 250);
        due("26: old", x.bar(23, 2), 250);
        due("26: hold", x.bar(23, 0), 0);
        due("26: head stays", x.bar(23, 1), 500);
        due("26: once more, of nothing", x.finger(23), 0);
        due("26: old is hold again", x.bar(23, 2), 0);
        int[] none = {-1, 24, Integer.MAX_VALUE, Integer.MIN_VALUE};
        for (int bar : none) {
            due("26: finger(" + bar + ")", x.finger(bar), -1);
        }
    }

    private static void seed() {
        ByHeart x = new ByHeart();
        int[] ws = {0, -1, Integer.MAX_VALUE, Integer.MIN_VALUE, 1};
        int before = 1;
        for (int w : ws) {
            due("39: seed(" + w + ")", x.seed(w), before);
            due("42: w", x.about(9), w);
            before = w;
        }
        x.seed(5);
        Check.tell(x, "heap a x;");
        due("4: w stays", x.about(9), 5);
    }

    private static void boxes() {
        ByHeart x = new ByHeart();
        for (int box = 0; box < 3; box++) {
            due("41: nothing was kept", x.again(box), -1);
        }
        for (int box = 0; box < 3; box++) {
            due("40: a piece without bars", x.image(box), 0);
            due("41: it was kept", x.again(box), 0);
        }
        Check.tell(x, "heap ?");
        due("4: a fault leaves boxes", x.again(0), 0);
        Check.tell(x, "heap a x;");
        for (int box = 0; box < 3; box++) {
            due("4: boxes are empty then", x.again(box), -1);
        }
        x.days(2);
        due("40: one", x.image(1), 2);
        x.days(1);
        due("41: none in 0", x.again(0), -1);
        due("41: none in 2", x.again(2), -1);
        due("41: nothing is done", x.about(7), 3);
        int[] none = {-1, 3, Integer.MAX_VALUE, Integer.MIN_VALUE};
        for (int box : none) {
            due("40: image(" + box + ")", x.image(box), -1);
            due("41: again(" + box + ")", x.again(box), -1);
        }
        due("41: nothing is done", x.about(7), 3);
        due("41: one", x.again(1), 2);
        due("41: the day goes back", x.about(7), 2);
        due("41: and once more", x.days(4) + x.again(1), 8);
    }

    private static void boxesKeep() {
        ByHeart x = Check.with("heap a x y;door 0;mark 1;" + law(500, 100, 0, 0, 0, 0));
        x.days(1);
        x.slow(0, 0);
        x.finger(0);
        x.play(0, 0);
        x.seed(77);
        due("40: the day", x.image(0), 1);
        x.days(2);
        x.slow(0, 1);
        x.finger(0);
        x.finger(1);
        x.set(0, 0, false);
        x.set(0, 1, true);
        x.set(1, 1, false);
        x.set(1, 0, true);
        x.play(0, 1);
        x.later(9);
        x.diary(0, 0, 0);
        x.paper(0, 0, true);
        x.feed(0, 0, 0, 0, 0);
        due("41: the day", x.again(0), 1);
        bars("41: hold", x, 0, 500, 0);
        bars("41: head", x, 1, 500, 0);
        bars("41: old", x, 2, 250, 0);
        bars("41: learnt", x, 3, 1, -1);
        bars("41: doors", x, 5, 1, 0);
        bars("41: marks", x, 6, 0, 1);
        int[] about = {2, 1, 0, 0, 1, 1, 9, 1, 20, 77, 0, 0};
        for (int i = 0; i < 12; i++) {
            due("41: about(" + i + ")", x.about(i), about[i]);
        }
        told("41: the latest play stays told", x, 0, 1, 0, 0, 0, 0);
        // Two are kept beside each other, each for itself; a box is kept over.
        x.days(3);
        x.image(2);
        x.days(3);
        x.image(1);
        due("41: 2", x.again(2), 4);
        due("41: 0", x.again(0), 1);
        due("41: 1", x.again(1), 7);
        due("40: 0 over", x.image(0), 7);
        x.days(1);
        due("41: the newer one", x.again(0), 7);
    }

    private static void about() {
        ByHeart x = Check.with("heap a x y z;heap b x;part p from a to b;plan q from 0 to 0 times 0 slow 0;plan r from 0 to 0 times 0 slow 0;");
        x.diary(0, 0, 0);
        x.diary(0, 0, 0);
        x.diary(0, 0, 0);
        x.paper(0, 0, true);
        x.paper(0, 0, true);
        x.later(6);
        x.days(7);
        x.seed(-9);
        Check.tellRules(x, "when (1) do q;when 1 do r;when 2 do q;");
        x.feed(0, 0, 0, 0, 0);
        x.end(8);
        int[] want = {4, 2, 1, 2, 3, 2, 6, 7, 8, -9, 3, 4};
        for (int i = 0; i < 12; i++) {
            due("42: about(" + i + ")", x.about(i), want[i]);
        }
        int[] others = {-1, 12, Integer.MAX_VALUE, Integer.MIN_VALUE};
        for (int what : others) {
            due("42: about(" + what + ")", x.about(what), -1);
        }
        x.untell(false, 0);
        x.untell(true, 1);
        due("42: diaries, told in all", x.about(4), 3);
        due("42: papers, told in all", x.about(5), 2);
    }
}
