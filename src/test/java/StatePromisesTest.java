/** Promises 6 to 17, 21, 26 and 39 to 42: what is there, what follows what, plays, days, images. */
public final class StatePromisesTest {
    private static final Check CHECK = new Check();

    public static void main(String[] args) {
        bar();
        part();
        set();
        alike();
        forks();
        behind();
        crossings();
        saved();
        play();
        crossedPlay();
        longPlay();
        slow();
        latest();
        days();
        plan();
        finger();
        seed();
        image();
        about();
        shorterPiece();
        CHECK.finish();
    }

    private static String law(int gain, int fade, int cross, int weak, int save, int ear) {
        return "law gain " + gain + " fade " + fade + " cross " + cross + " weak " + weak + " save " + save + " ear " + ear + ";";
    }

    private static void bars(String call, ByHeart x, int what, int... want) {
        for (int i = 0; i < want.length; i++) {
            CHECK.due(call + ": bar(" + i + ", " + what + ")", x.bar(i, what), want[i]);
        }
    }

    private static void bar() {
        ByHeart x = Check.with("heap a x y;heap b z;door 2;mark 0;" + law(500, 100, 0, 0, 4, 2));
        x.slow(0, 1);
        x.days(1);
        x.slow(2, 2);
        x.finger(1);
        bars("6", x, 0, 225, 0, 250);
        bars("6", x, 1, 450, 450, 500);
        bars("6", x, 2, 0, 225, 0);
        bars("6", x, 3, 0, 0, 1);
        bars("6", x, 4, 0, 0, 1);
        bars("6", x, 5, 0, 0, 1);
        bars("6", x, 6, 1, 0, 0);
        for (int what = 0; what < 7; what++) {
            CHECK.due("6: no such bar", x.bar(3, what), -1);
            CHECK.due("6: no such bar", x.bar(-1, what), -1);
        }
        CHECK.due("6: another what", x.bar(0, 7), -1);
        CHECK.due("6: another what", x.bar(0, -1), -1);
    }

    private static void part() {
        ByHeart x = Check.with("heap a x y;heap b z;part p from a to a;heap c u v;part q from b to c;part r from a to c;");
        int[][] want = {{0, 1}, {2, 4}, {0, 4}};
        for (int i = 0; i < 3; i++) {
            CHECK.due("7: first", x.part(i, 0), want[i][0]);
            CHECK.due("7: last", x.part(i, 1), want[i][1]);
            CHECK.due("7: another what", x.part(i, 2), -1);
            CHECK.due("7: another what", x.part(i, -1), -1);
        }
        CHECK.due("7: none such", x.part(3, 0), -1);
        CHECK.due("7: none such", x.part(-1, 1), -1);
    }

    private static void set() {
        ByHeart x = Check.with("heap a x y;door 1;");
        CHECK.due("8: there already", x.set(0, 1, true), false);
        CHECK.due("8: no more", x.set(0, 1, false), true);
        CHECK.due("8: gone already", x.set(0, 1, false), false);
        CHECK.due("8: a mark", x.set(1, 1, true), true);
        CHECK.due("8: a door beside it", x.set(0, 1, true), true);
        bars("8", x, 5, 0, 1);
        bars("8", x, 6, 0, 1);
        CHECK.due("8: not the mark", x.set(1, 1, false), true);
        bars("8", x, 5, 0, 1);
        bars("8", x, 6, 0, 0);
        CHECK.due("8: no such bar", x.set(0, 2, true), false);
        CHECK.due("8: no such bar", x.set(1, -1, true), false);
        CHECK.due("8: no such bar, not there", x.set(0, 2, false), false);
        CHECK.due("8: another what", x.set(2, 0, true), false);
        CHECK.due("8: another what", x.set(-1, 0, true), false);
    }

    private static void alike() {
        ByHeart x = Check.with("heap a x y z x y w;heap b y;");
        CHECK.due("9: x y, x y", x.alike(1, 4), 2);
        CHECK.due("9: the same back", x.alike(4, 1), 2);
        CHECK.due("9: y behind x, y behind w", x.alike(1, 6), 1);
        CHECK.due("9: not alike", x.alike(2, 5), 0);
        CHECK.due("9: both one", x.alike(3, 3), -1);
        CHECK.due("9: one is none", x.alike(0, 7), -1);
        CHECK.due("9: one is none", x.alike(-1, 0), -1);
        x = Check.with("heap a x x x x x x x x x x x x;heap b x x x x x x x x;");
        CHECK.due("9: no more than there are", x.alike(0, 19), 1);
        CHECK.due("9: no more than there are", x.alike(7, 19), 8);
        CHECK.due("9: 9", x.alike(8, 19), 9);
        CHECK.due("9: 9 at most", x.alike(18, 19), 9);
        x = Check.with("heap a x;heap b xx;heap c xxxxxxxx xxxxxxx;");
        CHECK.due("9: a look that begins so", x.alike(0, 1), 0);
        CHECK.due("9: a look that begins so", x.alike(2, 3), 0);
    }

    private static void forks() {
        ByHeart x = Check.with("heap a x y x y x z x;");
        // Behind the x at 0, 2: y; 4: z; 6: nothing. Behind the y at 1, 3: x.
        int[] want = {4, 6, 204, 206, 406};
        CHECK.due("11: how many", x.forks(), 5);
        for (int i = 0; i < 5; i++) {
            CHECK.due("10: fork(" + i + ")", x.fork(i), want[i]);
        }
        CHECK.due("10: none such", x.fork(5), -1);
        CHECK.due("10: none such", x.fork(-1), -1);
        x = Check.with("heap a x y z;");
        CHECK.due("11: none", x.forks(), 0);
        CHECK.due("10: none", x.fork(0), -1);
        x = Check.with("heap a x x;");
        CHECK.due("11: only one has anything behind", x.forks(), 1);
        CHECK.due("10: only one has anything behind", x.fork(0), 1);
    }

    private static void behind() {
        ByHeart x = Check.with("heap a x y;heap b x z;" + law(500, 0, 100, 333, 4, 2));
        CHECK.due("12: stop, nothing held", x.behind(0, -1), 333);
        CHECK.due("12: on", x.behind(0, -2), 667);
        CHECK.due("12: cross, nothing held", x.behind(0, 2), 0);
        x.slow(2, 2);
        x.slow(0, 0);
        x.slow(0, 0);
        // Held: 437 of the first, 250 of the third.
        CHECK.due("12: stop", x.behind(0, -1), 563 * 333 / 1000);
        CHECK.due("12: cross", x.behind(0, 2), 25);
        CHECK.due("12: not alike", x.behind(0, 1), 0);
        CHECK.due("12: on", x.behind(0, -2), 1000 - 563 * 333 / 1000 - 25);
        CHECK.due("12: cross back", x.behind(2, 0), 43);
        CHECK.due("12: itself", x.behind(0, 0), -1);
        CHECK.due("12: none", x.behind(4, -1), -1);
        CHECK.due("12: none", x.behind(-1, -1), -1);
        CHECK.due("12: none", x.behind(0, 4), -1);
        CHECK.due("12: none", x.behind(0, -3), -1);
        x.set(1, 0, true);
        CHECK.due("12: a mark, none crosses", x.behind(0, 2), 0);
        CHECK.due("12: a mark, the rest goes on", x.behind(0, -2), 1000 - 563 * 333 / 1000);
        CHECK.due("12: a mark, it stops as before", x.behind(0, -1), 563 * 333 / 1000);
        CHECK.due("12: a mark elsewhere", x.behind(2, 0), 43);
    }

    /** All bars look the same and are held by 999, so that nothing goes on. */
    private static ByHeart allAlike(String more) {
        ByHeart x = Check.with("heap a x x x x x x x x x x x x x x x x x x x x x x x x;" + law(500, 0, 100, 0, 24, 0) + more);
        for (int i = 0; i < 40; i++) {
            x.slow(0, 23);
        }
        return x;
    }

    private static void crossings() {
        ByHeart x = allAlike("");
        bars("12: held", x, 0, 997, 997);
        int left = 1000;
        for (int j = 1; j < 24; j++) {
            int share = Math.min(left, 99);
            CHECK.due("12: cross by number as long as anything is left, to " + j, x.behind(0, j), share);
            left -= share;
        }
        CHECK.due("12: nothing goes on", x.behind(0, -2), 0);
        int[] want = {99, 199, 299, 398, 5, 0};
        for (int j = 0; j < want.length; j++) {
            CHECK.due("12: more alike, to " + j, x.behind(12, j), want[j]);
        }
    }

    private static void saved() {
        ByHeart x = Check.with("heap a x y z u v w;door 0;door 4;" + law(100, 0, 0, 500, 3, 1));
        int[] want = {-1, 4, 4, 4, -1, -1};
        for (int i = 0; i < 6; i++) {
            CHECK.due("13: saved(" + i + ")", x.saved(i), want[i]);
        }
        CHECK.due("13: none such", x.saved(6), -1);
        CHECK.due("13: none such", x.saved(-1), -1);
        x.set(0, 2, true);
        CHECK.due("13: the first door above", x.saved(1), 2);
        x = Check.with("heap a x y;door 1;" + law(100, 0, 0, 500, 0, 1));
        CHECK.due("13: save 0", x.saved(0), -1);
    }

    private static void play() {
        ByHeart x = Check.with("heap a x y z;" + law(500, 0, 0, 0, 4, 2));
        CHECK.due("14: from above to", x.play(1, 0), -1);
        CHECK.due("14: none", x.play(0, 3), -1);
        CHECK.due("14: none", x.play(-1, 0), -1);
        CHECK.due("14: nothing was done", x.about(9), 1);
        CHECK.due("16: without one", x.latest(0), -1);
        CHECK.due("14: on and on", x.play(0, 1), 2);
        bars("14: those played grow", x, 0, 500, 500, 0);
        bars("14: they are learnt", x, 3, 0, 0, -1);
        told("16: at the bar to", x, 0, 1, 0, 0, 0, 0);
        int w = 1;
        for (int i = 0; i < 2; i++) {
            w = w * 1103515245 + 12345;
        }
        CHECK.due("14: a draw a bar", x.about(9), w);
        CHECK.due("14: to the last", x.play(2, 2), 1);
        told("16: at the bar to, if it is the last", x, 0, 2, 0, 0, 0, 0);
        x = Check.with("heap a x y z u v;door 1;door 3;" + law(500, 0, 0, 1000, 2, 1));
        CHECK.due("14: stops all the way", x.play(0, 4), 3);
        told("16: saved, saved farther on, lost", x, 2, 3, 3, 2, 2, 0);
        bars("14: nothing grows", x, 0, 0, 0, 0, 0, 0);
        x = Check.with("heap a x y z;door 2;" + law(500, 0, 0, 1000, 2, 2));
        for (int i = 0; i < 20; i++) {
            x.slow(2, 2);
        }
        x.seed(Check.seedFor(500, 990));
        CHECK.due("14: saved beyond the bar to", x.play(0, 1), 2);
        told("16: at the end", x, 1, 2, 1, 1, 0, 0);
        x = Check.with("heap a x;" + law(500, 0, 0, 500, 2, 2));
        x.seed(Check.seedFor(499, 499));
        CHECK.due("14: below stop", x.play(0, 0) + 10 * x.latest(0), 21);
        x.seed(Check.seedFor(500, 500));
        CHECK.due("14: not below stop", x.play(0, 0) + 10 * x.latest(0), 1);
    }

    private static void told(String call, ByHeart x, int... want) {
        for (int i = 0; i < 6; i++) {
            CHECK.due(call + ": latest(" + i + ")", x.latest(i), want[i]);
        }
    }

    private static void crossedPlay() {
        String piece = "heap a x y;heap b x z;heap c x w;" + law(500, 0, 100, 100, 4, 2);
        // Held 750 of bars 2 and 4: behind bar 0 are stop 100, 75 to bar 2, 75 to bar 4.
        int[][] cases = {{99, 0}, {100, 2}, {174, 2}, {175, 4}, {249, 4}, {250, 0}};
        for (int[] c : cases) {
            ByHeart x = Check.with(piece);
            for (int bar = 2; bar <= 4; bar += 2) {
                x.seed(Check.seedFor(900, 999));
                while (x.bar(bar, 0) < 750) {
                    x.play(bar, bar);
                    x.seed(Check.seedFor(900, 999));
                }
            }
            CHECK.due("14: held", x.bar(2, 0) + x.bar(4, 0), 1500);
            CHECK.due("14: behind", x.behind(0, -1) + x.behind(0, 2) + x.behind(0, 4), 250);
            x.seed(Check.seedFor(c[0], c[0]));
            x.play(0, 0);
            int took = x.bar(2, 0) > 750 ? 2 : x.bar(4, 0) > 750 ? 4 : 0;
            CHECK.due("14: a draw of " + c[0] + " takes", took, c[1]);
            CHECK.due("14: crossed", x.latest(5) > 0, c[1] != 0);
            if (c[0] == 99) {
                CHECK.due("14: stopped", x.latest(2), 1);
            } else if (c[1] == 0) {
                CHECK.due("14: on", x.bar(0, 0), 500);
            } else {
                CHECK.due("14: the one left does not grow", x.bar(0, 0), 0);
                CHECK.due("14: it goes on behind the other", x.latest(1) > c[1] || x.latest(0) == 2, true);
            }
            x.set(1, 0, true);
            x.seed(Check.seedFor(101, 101));
            x.play(0, 0);
            CHECK.due("14: a mark, it goes on", x.latest(0) + x.latest(5), 0);
        }
    }

    private static void longPlay() {
        ByHeart x = allAlike("");
        CHECK.due("14: behind 100 bars", x.play(0, 23), 100);
        CHECK.due("16: behind 100 bars", x.latest(0), 3);
        CHECK.due("16: all crossed", x.latest(5), 100);
        CHECK.due("16: none stopped", x.latest(2), 0);
    }

    private static void slow() {
        ByHeart x = Check.with("heap a x y z;" + law(301, 0, 0, 1000, 4, 2));
        CHECK.due("15: from above to", x.slow(1, 0), -1);
        CHECK.due("15: none", x.slow(0, 3), -1);
        CHECK.due("15: none", x.slow(-1, 1), -1);
        CHECK.due("15: shown", x.slow(0, 1), 2);
        bars("15: head", x, 1, 301, 301, 0);
        bars("15: hold by half, cut", x, 0, 150, 150, 0);
        CHECK.due("15: those known are not shown", x.slow(0, 2), 1);
        bars("15: head", x, 1, 511, 511, 301);
        CHECK.due("15: without a draw", x.about(9), 1);
        x = Check.with("heap a x;" + law(300, 0, 0, 1000, 4, 2));
        x.slow(0, 0);
        CHECK.due("15: 300 is known", x.slow(0, 0), 0);
        x = Check.with("heap a x;" + law(299, 0, 0, 1000, 4, 2));
        x.slow(0, 0);
        CHECK.due("15: 299 is not", x.slow(0, 0), 1);
        x = Check.with("heap a x;" + law(1, 0, 0, 1000, 4, 2));
        x.slow(0, 0);
        CHECK.due("15: half of 1 is 0", x.bar(0, 0), 0);
        CHECK.due("15: so it is not learnt", x.bar(0, 3), -1);
        CHECK.due("15: but known by 1", x.bar(0, 1), 1);
    }

    private static void latest() {
        ByHeart x = Check.with("heap a x y;" + law(500, 0, 0, 0, 4, 2));
        x.play(0, 1);
        CHECK.due("16: another what", x.latest(6), -1);
        CHECK.due("16: another what", x.latest(-1), -1);
        x.play(1, 0);
        CHECK.due("16: one that can't be leaves it", x.latest(1), 1);
        x.slow(0, 0);
        CHECK.due("16: slow leaves it", x.latest(1), 1);
        x.play(0, 0);
        CHECK.due("16: the latest", x.latest(1), 0);
        Check.tell(x, "heap a x;");
        CHECK.due("16: behind another piece", x.latest(1), -1);
    }

    private static void days() {
        ByHeart x = Check.with("heap a x y;" + law(500, 100, 0, 0, 4, 2));
        x.slow(0, 0);
        x.finger(0);
        x.slow(0, 0);
        CHECK.due("17: days(0)", x.days(0), 0);
        bars("17: nothing fades", x, 0, 250);
        CHECK.due("17: days(1)", x.days(1), 1);
        CHECK.due("17: hold", x.bar(0, 0), 225);
        CHECK.due("17: head", x.bar(0, 1), 675);
        CHECK.due("17: old", x.bar(0, 2), 225);
        CHECK.due("17: days(2)", x.days(2), 3);
        CHECK.due("17: day by day, each cut", x.bar(0, 0), 225 - 22 - 20);
        CHECK.due("17: learnt stays", x.bar(0, 3), 0);
        CHECK.due("17: days(-1)", x.days(-1), -1);
        CHECK.due("17: days(1001)", x.days(1001), -1);
        CHECK.due("17: days(1000)", x.days(1000), 1003);
        bars("17: what is cut off stays", x, 0, 9, 0);
        for (int i = 0; i < 98; i++) {
            x.days(1000);
        }
        CHECK.due("17: above 100000", x.days(998), -1);
        CHECK.due("17: nothing was done", x.about(7), 99003);
        CHECK.due("17: to 100000", x.days(997), 100000);
        CHECK.due("17: above it", x.days(1), -1);
        CHECK.due("17: none", x.days(0), 100000);
        CHECK.due("23: above it", x.practise(1), -1);
        CHECK.due("23: none", x.practise(0), 0);
    }

    private static void plan() {
        ByHeart x = Check.with("heap a x y z;" + law(500, 100, 0, 0, 4, 2)
                + "plan p from 0 to 1 times 2 slow 1;plan q from 2 to 2 times 0 slow 2;plan r from 0 to 2 times 0 slow 0;");
        CHECK.due("21: none such", x.plan(3), -1);
        CHECK.due("21: none such", x.plan(-1), -1);
        x.days(4);
        CHECK.due("21: the day then", x.plan(0), 5);
        // Hold 500, 750, then slowly 812; faded by 81.
        bars("21: hold", x, 0, 731, 731, 0);
        bars("21: head", x, 1, 450, 450, 0);
        bars("21: learnt on the day that begins", x, 3, 4, 4, -1);
        CHECK.due("21: slow ones alone", x.plan(1), 6);
        // Hold 250, 437; faded by 43. Head 500, 750; faded by 75.
        bars("21: hold", x, 0, 658, 658, 394);
        bars("21: head", x, 1, 405, 405, 675);
        CHECK.due("21: of nothing, it fades", x.plan(2), 7);
        bars("21: hold", x, 0, 593, 593, 355);
        for (int i = 0; i < 99; i++) {
            x.days(1000);
        }
        x.days(992);
        CHECK.due("21: to 100000", x.plan(2), 100000);
        CHECK.due("21: above 100000", x.plan(0), -1);
        bars("21: nothing was done", x, 3, 4, 4, 5);
        CHECK.due("21: nothing was done", x.bar(0, 0) < 10, true);
    }

    private static void finger() {
        ByHeart x = Check.with("heap a x y;" + law(500, 0, 0, 0, 4, 2));
        x.play(0, 0);
        CHECK.due("26: finger(0)", x.finger(0), 500);
        CHECK.due("26: hold", x.bar(0, 0), 0);
        CHECK.due("26: old", x.bar(0, 2), 500);
        CHECK.due("26: still learnt", x.bar(0, 3), 0);
        x.days(2);
        x.play(0, 0);
        CHECK.due("26: learnt when it first was", x.bar(0, 3), 0);
        x.play(0, 0);
        CHECK.due("26: once more", x.finger(0), 750);
        CHECK.due("26: of nothing", x.finger(1), 0);
        CHECK.due("26: none such", x.finger(2), -1);
        CHECK.due("26: none such", x.finger(-1), -1);
    }

    private static void seed() {
        ByHeart x = Check.with("heap a x;" + law(500, 0, 0, 0, 4, 2));
        CHECK.due("39: 1 at first", x.seed(-5), 1);
        CHECK.due("39: as it was put", x.seed(Integer.MIN_VALUE), -5);
        x.play(0, 0);
        CHECK.due("39: the next one", x.seed(0), Integer.MIN_VALUE * 1103515245 + 12345);
        x.seed(-1);
        CHECK.due("42: w may be NONE", x.about(9), -1);
    }

    private static void image() {
        ByHeart x = Check.with("heap a x y;door 0;" + law(500, 100, 0, 0, 4, 2));
        CHECK.due("40: none such", x.image(3), -1);
        CHECK.due("40: none such", x.image(-1), -1);
        CHECK.due("41: nothing was kept", x.again(0), -1);
        CHECK.due("41: none such", x.again(3), -1);
        CHECK.due("41: none such", x.again(-1), -1);
        x.days(2);
        x.slow(0, 0);
        x.finger(0);
        x.slow(0, 0);
        x.seed(9);
        CHECK.due("40: the day", x.image(2), 2);
        x.days(1);
        CHECK.due("40: another box", x.image(0), 3);
        x.finger(0);
        x.slow(0, 1);
        x.set(0, 0, false);
        x.set(1, 1, true);
        x.later(4);
        x.diary(0, 0, 0);
        x.play(0, 1);
        CHECK.due("41: the day", x.again(2), 2);
        bars("41: hold", x, 0, 250, 0);
        bars("41: head", x, 1, 750, 0);
        bars("41: old", x, 2, 250, 0);
        bars("41: learnt", x, 3, 2, -1);
        bars("41: doors", x, 5, 1, 0);
        bars("41: marks", x, 6, 0, 0);
        CHECK.due("41: the day", x.about(7), 2);
        CHECK.due("41: w", x.about(9), 9);
        CHECK.due("41: the time stays", x.about(6), 4);
        CHECK.due("41: diaries stay", x.about(4), 1);
        CHECK.due("41: the latest play stays told", x.latest(1), 1);
        x.slow(1, 1);
        CHECK.due("41: gone on from once more", x.again(2) + x.bar(1, 1), 2);
        CHECK.due("41: the other box", x.again(0), 3);
        CHECK.due("41: the other box", x.bar(0, 0), 225);
        x.days(5);
        CHECK.due("40: kept over it", x.image(0), 8);
        x.days(1);
        CHECK.due("41: the newer one", x.again(0), 8);
        CHECK.due("40: box 1", x.image(1), 8);
    }

    /** Nothing of a longer piece may be seen in the one behind it. */
    private static void shorterPiece() {
        ByHeart x = Check.with("heap a x y z x y z x y z;heap b x y z x y z x y z;part p from a to b;door 2;door 3;mark 4;"
                + law(500, 0, 100, 0, 24, 24) + "plan q from 0 to 8 times 1 slow 1;");
        x.plan(0);
        x.days(3);
        x.slow(0, 17);
        x.diary(0, 3, 3);
        x.paper(0, 3, false);
        Check.tell(x, "heap a x y x;" + law(500, 0, 100, 0, 24, 24));
        CHECK.due("10: fork(0)", x.fork(0), 2);
        CHECK.due("10: fork(1)", x.fork(1), -1);
        CHECK.due("11: forks()", x.forks(), 1);
        CHECK.due("13: saved(0)", x.saved(0), -1);
        CHECK.due("7: part(0, 0)", x.part(0, 0), -1);
        CHECK.due("21: plan(0)", x.plan(0), -1);
        x.play(0, 0);
        CHECK.due("12: behind(2, 0)", x.behind(2, 0), 50);
        CHECK.due("12: behind(2, -2)", x.behind(2, -2), 950);
        CHECK.due("12: behind(1, -2)", x.behind(1, -2), 1000);
        CHECK.due("18: through(0, ..)", x.through(0, -1, 0, 0), 999999);
        CHECK.due("19: put", x.put(1, 0, 2, 1000, -1), 0);
        CHECK.due("29: untell", x.untell(false, 0), false);
        CHECK.due("35: laws", x.laws(0, 0), 201);
        CHECK.due("36: hidden", x.hidden(1), 1);
        CHECK.due("34: hang", x.hang(0, 0), -1000000);
        CHECK.due("32: diaries", x.diaries(0, 0), 0);
    }

    private static void about() {
        ByHeart x = Check.with("heap a x y;heap b z;part p from a to b;plan q from 0 to 1 times 1 slow 1;");
        x.diary(0, 0, 0);
        x.diary(0, 0, 0);
        x.untell(false, 0);
        x.paper(0, 0, true);
        x.later(7);
        x.days(8);
        Check.tellRules(x, "when (1) do q;");
        x.feed(0, 0, 0, 0, 0);
        int[] want = {3, 2, 1, 1, 2, 1, 7, 8, 20, 1, 1, 2};
        for (int i = 0; i < 12; i++) {
            CHECK.due("42: about(" + i + ")", x.about(i), want[i]);
        }
        CHECK.due("42: about(12)", x.about(12), -1);
        CHECK.due("42: about(-1)", x.about(-1), -1);
    }
}
