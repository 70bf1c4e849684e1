/** Where ==== 3 and the promises 18 to 20 name an edge: THROUGH, PUT, BEST PLANS; answers worked out by hand. */
public final class OddsEdgesTest {
    private static final Check CHECK = new Check();
    private static final int MIN = Integer.MIN_VALUE;
    private static final int MAX = Integer.MAX_VALUE;

    public static void main(String[] args) {
        throughRange();
        throughOdds();
        throughCuts();
        throughJoltCut();
        throughSteps();
        throughAtOnce();
        throughSaved();
        throughJoltSaved();
        throughMarks();
        putKinds();
        putRange();
        putBarsWithout();
        putOneBar();
        putLeastRow();
        putFar();
        plansRange();
        plansWithout();
        plansOne();
        plansSix();
        plansFirstRow();
        plansFromNow();
        putFromNow();
        putMarkAtLast();
        nothingIsChanged();
        CHECK.finish();
    }

    private static void due(String call, long got, long want) {
        CHECK.due(call, got, want);
    }

    private static String law(int gain, int fade, int cross, int weak, int save, int ear) {
        return "law gain " + gain + " fade " + fade + " cross " + cross + " weak " + weak + " save " + save + " ear " + ear + ";";
    }

    private static String looks(int many, String look) {
        return "heap a" + (" " + look).repeat(many) + ";";
    }

    /** END, LOST, SAVED, HEARD, CROSSED. */
    private static void sums(String call, ByHeart x, int from, int jolt, int odds, int... want) {
        for (int what = 0; what < 5; what++) {
            due(call + ": through(" + from + ", " + jolt + ", " + odds + ", " + what + ")", x.through(from, jolt, odds, what), want[what]);
        }
    }

    // ---- THROUGH ----

    private static void throughRange() {
        ByHeart x = Check.with(looks(24, "x") + law(1, 0, 0, 0, 0, 0));
        sums("18: from the first", x, 0, -1, 0, 1000000, 0, 0, 0, 0);
        sums("18: from the last", x, 23, -1, 0, 1000000, 0, 0, 0, 0);
        sums("18: a jolt at the first", x, 0, 0, 1000, 0, 1000000, 0, 1000000, 0);
        sums("18: a jolt at the last", x, 0, 23, 1000, 0, 1000000, 0, 1000000, 0);
        sums("18: a jolt ahead of where it begins", x, 23, 22, 1000, 1000000, 0, 0, 0, 0);
        int[][] none = {{-1, -1, 0, 0}, {24, -1, 0, 0}, {MIN, -1, 0, 0}, {MAX, -1, 0, 0}, {0, -2, 0, 0}, {0, 24, 0, 0},
            {0, MIN, 0, 0}, {0, MAX, 0, 0}, {0, 0, -1, 0}, {0, 0, 1001, 0}, {0, 0, MIN, 0}, {0, 0, MAX, 0}, {0, -1, -1, 0},
            {0, -1, 1001, 0}, {0, 0, 0, -1}, {0, 0, 0, 5}, {0, 0, 0, MIN}, {0, 0, 0, MAX}};
        for (int[] n : none) {
            due("18: through(" + n[0] + ", " + n[1] + ", " + n[2] + ", " + n[3] + ")", x.through(n[0], n[1], n[2], n[3]), -1);
        }
        due("18: without bars", new ByHeart().through(0, -1, 0, 0), -1);
        due("18: without bars", new ByHeart().through(-1, -1, 0, 0), -1);
    }

    private static void throughOdds() {
        ByHeart x = Check.with("heap a x;" + law(1, 0, 0, 0, 0, 0));
        int[] odds = {0, 1, 499, 500, 999, 1000};
        for (int o : odds) {
            sums("18: odds", x, 0, 0, o, 1000000 - 1000 * o, 1000 * o, 0, 1000 * o, 0);
            sums("18: without a jolt", x, 0, -1, o, 1000000, 0, 0, 0, 0);
        }
    }

    private static void throughCuts() {
        // Of each 1000 one goes on: 1,000,000 parts, 1,000, 1, none.
        int[][] want = {{1000, 999000}, {1, 999999}, {0, 999999}, {0, 999999}};
        for (int bars = 1; bars <= 4; bars++) {
            ByHeart x = Check.with(looks(bars, "x") + law(1, 0, 0, 999, 0, 0));
            sums("18: " + bars + " bars", x, 0, -1, 0, want[bars - 1][0], want[bars - 1][1], 0, want[bars - 1][1], 0);
        }
        // From bar 0 it stops by 1 of 1000; 999 go on to where all that come stop: 999,000,000 parts are 999,000.
        ByHeart x = Check.with("heap a x;" + law(1, 0, 0, 1, 0, 0));
        sums("18: one of 1000", x, 0, -1, 0, 999000, 1000, 0, 1000, 0);
    }

    private static void throughJoltCut() {
        // 333 of 1000 stop at each bar: 667000000, 444889000, 296740963 come to the fourth bar.
        ByHeart x = Check.with("heap a x y z u;" + law(1, 0, 0, 333, 0, 0));
        // A jolt of 1 there: 296740 stop; of the others, 296444223, 98715926 stop and 197728296 go on.
        int lost = (333000000 + 222111000 + 148148037 + 296740 + 98715926) / 1000;
        sums("18: a jolt is cut", x, 0, 3, 1, 197728, lost, 0, lost, 0);
        // A jolt of 1000 at the second: 667000000 stop there, none goes on.
        sums("18: all of them", x, 0, 1, 1000, 0, 1000000, 0, 1000000, 0);
    }

    /** Bar 9 crosses by 899 to bar 8, so that all that do are at bar 9 again. */
    private static ByHeart circle() {
        ByHeart x = Check.with(looks(10, "x") + law(500, 0, 100, 0, 0, 0));
        while (x.bar(8, 0) < 999) {
            x.play(8, 8);
        }
        due("12: cross", x.behind(9, 8), 899);
        due("12: on", x.behind(9, -2), 101);
        return x;
    }

    private static long[] circleSums(int steps) {
        long parts = 1000000000L;
        long end = 0;
        long crossed = 0;
        for (int i = 0; i < steps; i++) {
            end += parts * 101 / 1000;
            crossed += parts * 899 / 1000;
            parts = parts * 899 / 1000;
        }
        return new long[] {end / 1000, crossed / 1000};
    }

    private static void throughSteps() {
        long[] want = circleSums(120);
        CHECK.due("one step less would be seen", circleSums(119)[1] < want[1], true);
        CHECK.due("one step more would be seen", circleSums(121)[1] > want[1], true);
        sums("18: 120 steps", circle(), 9, -1, 0, (int) want[0], 0, 0, 0, (int) want[1]);
        // A step for each of 24 bars, and none is left.
        sums("18: 24 steps", Check.with(looks(24, "x") + law(1, 0, 0, 0, 0, 0)), 0, -1, 0, 1000000, 0, 0, 0, 0);
    }

    private static void throughAtOnce() {
        // Two ways come together at bar 9 a step apart: nothing of what comes in a step goes on in it.
        ByHeart x = circle();
        long end = 0;
        long crossed = 0;
        long parts = 0;
        for (int step = 0; step < 120; step++) {
            // In the first step all of 1000000000 go from bar 8 to bar 9.
            end += parts * 101 / 1000;
            crossed += parts * 899 / 1000;
            parts = parts * 899 / 1000 + (step == 0 ? 1000000000L : 0);
        }
        sums("18: a step later", x, 8, -1, 0, (int) (end / 1000), 0, 0, 0, (int) (crossed / 1000));
    }

    private static void throughSaved() {
        // All stop at each bar: from 0 to 1 (not heard), to 3 (heard), lost there.
        ByHeart x = Check.with("heap a x y z u;door 1;door 3;" + law(1, 0, 0, 1000, 2, 1));
        sums("18: saved twice", x, 0, -1, 0, 0, 1000000, 2000000, 2000000, 0);
        sums("18: at the last door", x, 3, -1, 0, 0, 1000000, 0, 1000000, 0);
        // 24 doors: saved 23 times.
        StringBuilder doors = new StringBuilder(looks(24, "x"));
        for (int i = 0; i < 24; i++) {
            doors.append("door ").append(i).append(';');
        }
        sums("18: saved at each", Check.with(doors + law(1, 0, 0, 1000, 1, 1)), 0, -1, 0, 0, 1000000, 23000000, 1000000, 0);
        sums("18: heard at each", Check.with(doors + law(1, 0, 0, 1000, 1, 0)), 0, -1, 0, 0, 1000000, 23000000, 24000000, 0);
        sums("18: save 0", Check.with(doors + law(1, 0, 0, 1000, 0, 0)), 0, -1, 0, 0, 1000000, 0, 1000000, 0);
    }

    private static void throughJoltSaved() {
        // A jolt at bar 0 is saved at bar 3, if save is 3; heard, if ear is below 3.
        int[][] cases = {{2, 24, 1000, 0, 1000}, {3, 24, 0, 1000, 0}, {3, 3, 0, 1000, 0}, {3, 2, 0, 1000, 1000}, {24, 0, 0, 1000, 1000}};
        for (int[] c : cases) {
            ByHeart x = Check.with("heap a x y z u;door 3;" + law(1, 0, 0, 0, c[0], c[1]));
            sums("18: save " + c[0] + ", ear " + c[1], x, 0, 0, 1, 1000000 - c[2], c[2], c[3], c[4], 0);
        }
    }

    private static void throughMarks() {
        ByHeart x = circle();
        x.set(1, 9, true);
        sums("18: none crosses with a mark", x, 9, -1, 0, 1000000, 0, 0, 0, 0);
        x.set(1, 9, false);
        x.set(1, 8, true);
        long[] want = circleSums(120);
        sums("18: a mark elsewhere", x, 9, -1, 0, (int) want[0], 0, 0, 0, (int) want[1]);
        x.set(1, 8, false);
        // At the jolt's bar the others cross: 500000000, of them 449500000, of half of these 202050250 ...
        long parts = 1000000000L;
        long lost = 0;
        long end = 0;
        long crossed = 0;
        for (int i = 0; i < 120; i++) {
            long jolted = parts * 500 / 1000;
            lost += jolted;
            end += (parts - jolted) * 101 / 1000;
            crossed += (parts - jolted) * 899 / 1000;
            parts = (parts - jolted) * 899 / 1000;
        }
        sums("18: a jolt each time", x, 9, 9, 500, (int) (end / 1000), (int) (lost / 1000), 0, (int) (lost / 1000), (int) (crossed / 1000));
    }

    // ---- PUT ----

    private static void putKinds() {
        ByHeart x = Check.with("heap a x y z;" + law(1, 0, 0, 0, 0, 0));
        for (int doors = -2; doors <= 4; doors++) {
            for (int marks = -2; marks <= 4; marks++) {
                boolean can = doors >= 0 && marks >= 0 && doors + marks >= 1 && doors + marks <= 2;
                int second = doors + marks == 2 ? doors == marks ? 0 : 1 : -1;
                due("19: put(" + doors + ", " + marks + ", .., -1)", x.put(doors, marks, -1, 0, -1), can ? 1000000 : -1);
                due("19: put(" + doors + ", " + marks + ", .., 0)", x.put(doors, marks, -1, 0, 0), can ? 0 : -1);
                due("19: put(" + doors + ", " + marks + ", .., 1)", x.put(doors, marks, -1, 0, 1), can ? second : -1);
            }
        }
        int[][] far = {{MAX, MAX}, {MIN, MIN}, {MAX, MIN + 3}, {MIN, MAX}, {MAX, -MAX + 1}, {MAX, 3 - MAX}};
        for (int[] f : far) {
            due("19: put(" + f[0] + ", " + f[1] + ", ..)", x.put(f[0], f[1], -1, 0, -1), -1);
        }
    }

    private static void putRange() {
        ByHeart x = Check.with("heap a x y z;" + law(1, 0, 0, 0, 2, 0));
        due("19: a jolt at the last bar", x.put(1, 0, 2, 1000, -1), 0);
        due("19: a jolt at the first bar", x.put(1, 0, 0, 1000, -1), 1000000);
        due("19: odds 0", x.put(1, 0, 2, 0, -1), 1000000);
        due("19: odds 1", x.put(1, 0, 2, 1, -1), 999000);
        int[][] none = {{-2, 0}, {3, 0}, {MIN, 0}, {MAX, 0}, {0, -1}, {0, 1001}, {0, MIN}, {0, MAX}, {-1, -1}, {-1, 1001}};
        for (int[] n : none) {
            for (int what = -1; what <= 1; what++) {
                due("19: put(1, 1, " + n[0] + ", " + n[1] + ", " + what + ")", x.put(1, 1, n[0], n[1], what), -1);
            }
        }
        int[] others = {-2, 2, MIN, MAX};
        for (int what : others) {
            due("19: put(1, 1, .., " + what + ")", x.put(1, 1, -1, 0, what), -1);
            due("19: put(1, 0, .., " + what + ")", x.put(1, 0, -1, 0, what), -1);
        }
        due("19: one has no second", x.put(1, 0, -1, 0, 1), -1);
        due("19: one has no second", x.put(0, 1, -1, 0, 1), -1);
        due("19: two have", x.put(0, 2, -1, 0, 1), 1);
        due("19: without bars", new ByHeart().put(1, 0, -1, 0, -1), -1);
        due("19: without bars", new ByHeart().put(0, 1, -1, 0, -1), -1);
    }

    private static void putBarsWithout() {
        for (int what = 0; what < 2; what++) {
            int one = what == 0 ? 1 : 0;
            ByHeart x = Check.with(looks(24, "x") + law(1, 0, 0, 0, 0, 0));
            for (int bar = 0; bar < 22; bar++) {
                x.set(what, bar, true);
            }
            due("19: two are without", x.put(2 * one, 2 - 2 * one, -1, 0, -1), 1000000);
            due("19: the one", x.put(2 * one, 2 - 2 * one, -1, 0, 0), 22);
            due("19: and the other", x.put(2 * one, 2 - 2 * one, -1, 0, 1), 23);
            x.set(what, 22, true);
            due("19: one is without, two asked", x.put(2 * one, 2 - 2 * one, -1, 0, -1), -1);
            due("19: no row", x.put(2 * one, 2 - 2 * one, -1, 0, 0), -1);
            due("19: one is without", x.put(one, 1 - one, -1, 0, 0), 23);
            due("19: one of each", x.put(1, 1, -1, 0, what), 23);
            due("19: one of each", x.put(1, 1, -1, 0, 1 - what), 0);
            x.set(what, 23, true);
            due("19: none is without", x.put(one, 1 - one, -1, 0, -1), -1);
            due("19: none of one kind", x.put(1, 1, -1, 0, -1), -1);
            due("19: two of the other kind", x.put(2 - 2 * one, 2 * one, -1, 0, 1), 1);
        }
    }

    private static void putOneBar() {
        ByHeart x = Check.with("heap a x;" + law(1, 0, 0, 500, 4, 2));
        due("19: a door and a mark on one bar", x.put(1, 1, -1, 0, -1), 500000);
        due("19: the door", x.put(1, 1, -1, 0, 0), 0);
        due("19: the mark", x.put(1, 1, -1, 0, 1), 0);
        due("19: two doors on one bar can't be", x.put(2, 0, -1, 0, -1), -1);
        due("19: two marks neither", x.put(0, 2, -1, 0, -1), -1);
    }

    private static void putLeastRow() {
        // A jolt of all at bar 1 is saved by a door at 2 or 3, no farther.
        ByHeart x = Check.with("heap a x y z u v;" + law(1, 0, 0, 0, 2, 0));
        int[][] cases = {{1, 0, 2, -1}, {2, 0, 0, 2}, {1, 1, 2, 0}, {0, 1, 0, -1}, {0, 2, 0, 1}};
        int[] end = {1000000, 1000000, 1000000, 0, 0};
        for (int i = 0; i < cases.length; i++) {
            int[] c = cases[i];
            due("19: put(" + c[0] + ", " + c[1] + "): the end", x.put(c[0], c[1], 1, 1000, -1), end[i]);
            due("19: put(" + c[0] + ", " + c[1] + "): the first", x.put(c[0], c[1], 1, 1000, 0), c[2]);
            due("19: put(" + c[0] + ", " + c[1] + "): the second", x.put(c[0], c[1], 1, 1000, 1), c[3]);
        }
        // A jolt and a stop for sure: behind a jolt at bar 0 only bar 3 is held, so a door must be there.
        x = Check.with("heap a x y z u;" + law(500, 0, 0, 1000, 24, 0));
        for (int i = 0; i < 40; i++) {
            x.slow(3, 3);
        }
        due("19: only at bar 3", x.put(1, 0, 0, 1000, 0), 3);
        due("19: held by 997", x.put(1, 0, 0, 1000, -1), 997000);
        due("19: of two the last that helps, not at bar 1", x.put(2, 0, 0, 1000, 0), 0);
        due("19: bar 3", x.put(2, 0, 0, 1000, 1), 3);
    }

    private static void putFar() {
        // On the last of 24 bars: only a door there saves what stops at bar 22; a mark there or not.
        ByHeart x = Check.with(looks(24, "x") + law(1, 0, 0, 0, 1, 0));
        due("19: the last bar", x.put(1, 0, 22, 1000, 0), 23);
        due("19: all come through", x.put(1, 0, 22, 1000, -1), 1000000);
        due("19: two, the least beside it", x.put(2, 0, 22, 1000, 0), 0);
        due("19: and the last", x.put(2, 0, 22, 1000, 1), 23);
        x.set(0, 23, true);
        due("19: saved already, the least", x.put(1, 0, 22, 1000, 0), 0);
        due("19: not where one is", x.put(2, 0, 22, 1000, 1), 1);
    }

    // ---- BEST PLANS ----

    private static final String PLANS = "plan a from 0 to 0 times 0 slow 0;plan b from 0 to 0 times 0 slow 0;"
            + "plan c from 0 to 0 times 0 slow 0;plan d from 1 to 1 times 0 slow 20;plan e from 0 to 0 times 20 slow 0;"
            + "plan f from 0 to 1 times 1 slow 0;";

    private static void plansRange() {
        ByHeart x = Check.with("heap a x y;" + law(500, 0, 0, 1000, 0, 0) + "plan a from 0 to 1 times 1 slow 0;");
        for (int n = -1; n <= 6; n++) {
            for (int what = -2; what <= 5; what++) {
                boolean can = n >= 1 && n <= 4 && what >= -1 && what < n;
                // Held 500, 750, 875, 937 of both.
                int[] end = {0, 250000, 562500, 765625, 877969};
                due("20: plans(" + n + ", " + what + ")", x.plans(n, what), !can ? -1 : what == -1 ? end[n] : 0);
            }
        }
        int[] far = {MIN, MAX};
        for (int f : far) {
            due("20: plans(" + f + ", -1)", x.plans(f, -1), -1);
            due("20: plans(1, " + f + ")", x.plans(1, f), -1);
        }
    }

    private static void plansWithout() {
        due("20: without plans", Check.with("heap a x;").plans(1, -1), -1);
        due("20: without plans", Check.with("heap a x;").plans(4, 0), -1);
        due("20: without bars", new ByHeart().plans(1, -1), -1);
        due("20: without bars", Check.with(law(1, 0, 0, 0, 0, 0)).plans(1, 0), -1);
    }

    private static void plansOne() {
        ByHeart x = Check.with("heap a x;" + law(1, 0, 0, 1000, 0, 0) + "plan a from 0 to 0 times 0 slow 0;");
        due("20: nothing comes to the end", x.plans(4, -1), 0);
        due("20: a row all the same", x.plans(4, 3), 0);
    }

    private static void plansSix() {
        ByHeart x = Check.with("heap a x y;" + law(500, 0, 0, 1000, 0, 0) + PLANS);
        due("20: one day", x.plans(1, -1), 250000);
        due("20: the last plan", x.plans(1, 0), 5);
        // Held 999 of bar 0 by e; of bar 1 500 by f, or 995 by d (20 times a fourth of the rest, each cut).
        due("20: two days", x.plans(2, -1), 999 * 995);
        due("20: d ahead of e", x.plans(2, 0), 3);
        due("20: then e", x.plans(2, 1), 4);
    }

    private static void plansFirstRow() {
        // Three that do nothing, and nothing fades: of like rows the first.
        ByHeart x = Check.with("heap a x y;" + law(500, 0, 0, 0, 0, 0) + PLANS);
        for (int n = 1; n <= 4; n++) {
            due("20: all comes through", x.plans(n, -1), 1000000);
            for (int what = 0; what < n; what++) {
                due("20: the first row", x.plans(n, what), 0);
            }
        }
    }

    /** From what is held as it is asked, be that more or less than when it was asked ahead. */
    private static void plansFromNow() {
        ByHeart x = Check.with("heap a x y;" + law(500, 0, 0, 1000, 0, 0) + "plan a from 0 to 0 times 1 slow 0;plan b from 1 to 1 times 1 slow 0;");
        x.image(0);
        due("20: one of both", x.plans(1, -1), 0);
        x.plan(0);
        due("20: the other one, from now", x.plans(1, 0), 1);
        due("20: 500 of each", x.plans(1, -1), 250000);
        x.plan(0);
        x.plan(1);
        x.plan(1);
        due("20: 875 of one, 750 of the other", x.plans(1, -1), 656250);
        x.again(0);
        due("20: less than ahead", x.plans(1, -1), 0);
        due("20: the first row", x.plans(1, 0), 0);
        due("20: two days", x.plans(2, -1), 250000);
    }

    private static void putFromNow() {
        ByHeart x = Check.with("heap a x y z;" + law(500, 0, 0, 1000, 4, 0));
        x.image(0);
        due("19: nothing is held", x.put(1, 0, -1, 0, -1), 0);
        due("19: the least", x.put(1, 0, -1, 0, 0), 0);
        x.slow(2, 2);
        due("19: a door where it is held", x.put(1, 0, -1, 0, 0), 2);
        due("19: a fourth comes through", x.put(1, 0, -1, 0, -1), 250000);
        x.again(0);
        due("19: less than ahead", x.put(1, 0, -1, 0, -1), 0);
        due("19: the least", x.put(1, 0, -1, 0, 0), 0);
    }

    /** Bar 23 crosses by 50 behind bar 21, from where it comes to a jolt at bar 22 once more. */
    private static void putMarkAtLast() {
        StringBuilder heap = new StringBuilder("heap a");
        for (int i = 0; i < 21; i++) {
            heap.append(' ').append((char) ('a' + i));
        }
        ByHeart x = Check.with(heap + " x y x;" + law(500, 0, 100, 0, 1, 0));
        x.play(21, 21);
        due("12: cross", x.behind(23, 21), 50);
        due("19: a mark at the last bar", x.put(0, 1, 22, 500, 0), 23);
        due("19: the half that the jolt leaves", x.put(0, 1, 22, 500, -1), 500000);
        due("19: two marks, the least beside it", x.put(0, 2, 22, 500, 0), 0);
        due("19: and the last", x.put(0, 2, 22, 500, 1), 23);
        due("19: the half", x.put(0, 2, 22, 500, -1), 500000);
        due("19: a door at the last bar, too", x.put(1, 1, 22, 500, 0), 23);
        due("19: and a mark there", x.put(1, 1, 22, 500, 1), 23);
        due("19: all come through", x.put(1, 1, 22, 500, -1), 1000000);
        x.set(1, 23, true);
        due("19: not where a mark is, the least", x.put(0, 1, 22, 500, 0), 0);
        due("19: the half", x.put(0, 1, 22, 500, -1), 500000);
        due("19: of two that don't help, the least", x.put(0, 2, 22, 500, 1), 1);
    }

    private static void nothingIsChanged() {
        ByHeart x = Check.with("heap a x y;" + law(500, 100, 100, 500, 4, 2) + PLANS);
        x.slow(0, 1);
        x.seed(5);
        x.through(0, 1, 500, 0);
        x.put(1, 1, 0, 500, -1);
        x.put(2, 0, 0, 500, 0);
        x.plans(4, -1);
        int[] want = {250, 500, 0, 0, 0, 0, 0};
        for (int bar = 0; bar < 2; bar++) {
            for (int what = 0; what < 7; what++) {
                due("18 to 20 ask only: bar(" + bar + ", " + what + ")", x.bar(bar, what), want[what]);
            }
        }
        due("18 to 20 ask only: the day", x.about(7), 0);
        due("18 to 20 ask only: w", x.about(9), 5);
        due("18 to 20 are no play", x.latest(0), -1);
    }
}
