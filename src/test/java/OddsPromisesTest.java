/** Promises 18 to 20 and 23 to 25: odds, where doors and marks are best put, plans and rules. */
public final class OddsPromisesTest {
    private static final Check CHECK = new Check();

    public static void main(String[] args) {
        through();
        cutsOff();
        crossings();
        cannotBe();
        put();
        putMarks();
        putCannotBe();
        plans();
        practise();
        reach();
        rule();
        values();
        CHECK.finish();
    }

    private static String law(int gain, int fade, int cross, int weak, int save, int ear) {
        return "law gain " + gain + " fade " + fade + " cross " + cross + " weak " + weak + " save " + save + " ear " + ear + ";";
    }

    private static void sums(String call, ByHeart x, int from, int jolt, int odds, int... want) {
        for (int what = 0; what < 5; what++) {
            CHECK.due(call + ": through(.., " + what + ")", x.through(from, jolt, odds, what), want[what]);
        }
    }

    private static void through() {
        ByHeart x = Check.with("heap a x y z;" + law(500, 0, 0, 0, 4, 1));
        sums("18: nothing stops it", x, 0, -1, 0, 1000000, 0, 0, 0, 0);
        sums("18: odds without a jolt are nothing", x, 0, -1, 1000, 1000000, 0, 0, 0, 0);
        sums("18: a jolt", x, 0, 1, 300, 700000, 300000, 0, 300000, 0);
        sums("18: a jolt behind which it begins", x, 2, 1, 300, 1000000, 0, 0, 0, 0);
        x.set(0, 2, true);
        sums("18: a jolt saved near, not heard", x, 0, 1, 300, 1000000, 0, 300000, 0, 0);
        sums("18: a jolt saved far, heard", x, 0, 0, 300, 1000000, 0, 300000, 300000, 0);
        sums("18: a door does not help at itself", x, 0, 2, 1000, 0, 1000000, 0, 1000000, 0);
        x = Check.with("heap a x y;door 1;" + law(500, 0, 0, 500, 4, 1));
        // At the first bar 400 stop by the jolt, of the other 600 a half; all get to the second, where a half stops.
        sums("18: a jolt and a stop", x, 0, 0, 400, 500000, 500000, 700000, 500000, 0);
        CHECK.due("18: nothing is changed", x.bar(0, 0) + x.about(7) + x.about(9), 1);
    }

    private static void cutsOff() {
        ByHeart x = Check.with("heap a x y z u;" + law(500, 0, 0, 333, 4, 1));
        // 1000000000, 667000000, 444889000, 296740963, 197926222 (cut); lost 333000000, 222111000, 148148037, 98814740 (cut).
        sums("18: cut", x, 0, -1, 0, 197926, 802073, 0, 802073, 0);
        x = Check.with("heap a x x;" + law(15, 0, 100, 0, 4, 1));
        x.play(0, 0);
        CHECK.due("18: held", x.bar(0, 0), 15);
        // 1 of 1000 goes from the second bar behind the first one, again and again.
        sums("18: round and round", x, 0, -1, 0, 999999, 0, 0, 0, 1001);
    }

    private static void crossings() {
        ByHeart x = Check.with("heap a x x x x x x x x x x x x x x x x x x x x x x x x;" + law(500, 0, 100, 0, 24, 0));
        for (int i = 0; i < 40; i++) {
            x.slow(0, 23);
        }
        CHECK.due("18: none comes to the end", x.through(0, -1, 0, 0), 0);
        int crossed = x.through(0, -1, 0, 4);
        CHECK.due("18: 120 steps", crossed > 119990000 && crossed <= 120000000, true);
        CHECK.due("18: with no part lost", x.through(0, -1, 0, 1), 0);
        for (int i = 0; i < 24; i++) {
            x.set(1, i, true);
        }
        sums("18: marks", x, 0, -1, 0, 1000000, 0, 0, 0, 0);
    }

    private static void cannotBe() {
        ByHeart x = Check.with("heap a x y;");
        CHECK.due("18: from", x.through(2, -1, 0, 0), -1);
        CHECK.due("18: from", x.through(-1, -1, 0, 0), -1);
        CHECK.due("18: jolt", x.through(0, 2, 0, 0), -1);
        CHECK.due("18: jolt", x.through(0, -2, 0, 0), -1);
        CHECK.due("18: odds", x.through(0, 0, 1001, 0), -1);
        CHECK.due("18: odds", x.through(0, 0, -1, 0), -1);
        CHECK.due("18: what", x.through(0, 0, 0, 5), -1);
        CHECK.due("18: what", x.through(0, 0, 0, -1), -1);
    }

    private static void row(String call, ByHeart x, int doors, int marks, int jolt, int odds, int[] want) {
        for (int what = -2; what <= 2; what++) {
            int due = what == -2 || what == 2 ? -1 : want[what + 1];
            CHECK.due(call + ": put(" + doors + ", " + marks + ", .., " + what + ")", x.put(doors, marks, jolt, odds, what), due);
        }
    }

    private static void put() {
        ByHeart x = Check.with("heap a x y z u;" + law(500, 0, 0, 0, 2, 1));
        row("19: all alike, the least", x, 1, 0, -1, 0, new int[] {1000000, 0, -1});
        row("19: all alike, the least two", x, 2, 0, -1, 0, new int[] {1000000, 0, 1});
        row("19: behind the jolt", x, 1, 0, 1, 400, new int[] {1000000, 2, -1});
        row("19: behind the jolt, and the least one", x, 2, 0, 1, 400, new int[] {1000000, 0, 2});
        row("19: one helps a jolt at the last bar in vain", x, 1, 0, 3, 400, new int[] {600000, 0, -1});
        row("19: marks don't help", x, 0, 2, 1, 400, new int[] {600000, 0, 1});
        row("19: a door, then a mark", x, 1, 1, 1, 400, new int[] {1000000, 2, 0});
        x.set(0, 2, true);
        row("19: one is there", x, 1, 0, 1, 400, new int[] {1000000, 0, -1});
        x.set(0, 0, true);
        row("19: only on bars without", x, 2, 0, 1, 400, new int[] {1000000, 1, 3});
        x.set(0, 1, true);
        row("19: too few without", x, 2, 0, 1, 400, new int[] {-1, -1, -1});
        row("19: one without", x, 1, 0, 1, 400, new int[] {1000000, 3, -1});
        CHECK.due("19: nothing is changed", x.bar(3, 5), 0);
        x.set(0, 3, true);
        row("19: none without", x, 1, 0, 1, 400, new int[] {-1, -1, -1});
        row("19: marks can be put", x, 0, 1, 1, 400, new int[] {1000000, 0, -1});
    }

    private static void putMarks() {
        // From bar 3 it may cross over behind bar 1, from where it goes on, but for the jolt.
        ByHeart x = Check.with("heap a p x;heap b q x;" + law(500, 0, 100, 0, 4, 2));
        x.play(1, 1);
        CHECK.due("19: bar 3 crosses", x.behind(3, 1), 50);
        row("19: a mark where it crosses", x, 0, 1, 2, 500, new int[] {500000, 3, -1});
        row("19: a mark where it crosses, and the least one", x, 0, 2, 2, 500, new int[] {500000, 0, 3});
        row("19: on one bar", x, 1, 1, 2, 500, new int[] {1000000, 3, 3});
    }

    private static void putCannotBe() {
        ByHeart x = Check.with("heap a x y z;");
        int[][] can = {{0, 0}, {3, 0}, {0, 3}, {2, 1}, {1, 2}, {-1, 1}, {1, -1}, {-1, 2}, {2, -1},
            {Integer.MAX_VALUE, Integer.MAX_VALUE}, {Integer.MIN_VALUE, Integer.MIN_VALUE}};
        for (int[] c : can) {
            row("19: so many", x, c[0], c[1], -1, 0, new int[] {-1, -1, -1});
        }
        x.set(1, 1, true);
        row("19: two without a mark", x, 0, 2, -1, 0, new int[] {125000, 0, 2});
        x.set(1, 0, true);
        row("19: too few without a mark", x, 0, 2, -1, 0, new int[] {-1, -1, -1});
        row("19: one without a mark", x, 0, 1, -1, 0, new int[] {125000, 2, -1});
        x.set(1, 2, true);
        row("19: none without a mark", x, 0, 1, -1, 0, new int[] {-1, -1, -1});
        CHECK.due("19: jolt", x.put(1, 0, 3, 0, -1), -1);
        CHECK.due("19: jolt", x.put(1, 0, -2, 0, -1), -1);
        CHECK.due("19: odds", x.put(1, 0, 0, 1001, -1), -1);
        CHECK.due("19: odds", x.put(1, 0, 0, -1, -1), -1);
        CHECK.due("19: no bars", new ByHeart().put(1, 0, -1, 0, -1), -1);
    }

    private static void plans() {
        ByHeart x = Check.with("heap a x y;" + law(500, 0, 0, 1000, 4, 2)
                + "plan n from 0 to 0 times 0 slow 0;plan p from 0 to 0 times 1 slow 0;plan q from 1 to 1 times 1 slow 0;"
                + "plan r from 0 to 0 times 1 slow 0;");
        CHECK.due("20: a bar not held is never passed", x.plans(1, -1), 0);
        CHECK.due("20: all alike, the first", x.plans(1, 0), 0);
        CHECK.due("20: two days", x.plans(2, -1), 250000);
        CHECK.due("20: the first row", x.plans(2, 0), 1);
        CHECK.due("20: the first row", x.plans(2, 1), 2);
        CHECK.due("20: three days", x.plans(3, -1), 375000);
        int[] three = {1, 1, 2};
        for (int i = 0; i < 3; i++) {
            CHECK.due("20: three days", x.plans(3, i), three[i]);
        }
        CHECK.due("20: four days", x.plans(4, -1), 562500);
        int[] four = {1, 1, 2, 2};
        for (int i = 0; i < 4; i++) {
            CHECK.due("20: four days", x.plans(4, i), four[i]);
        }
        CHECK.due("20: nothing is changed", x.bar(0, 0) + x.about(7), 0);
        CHECK.due("20: no such day", x.plans(3, 3), -1);
        CHECK.due("20: no such day", x.plans(4, 4), -1);
        CHECK.due("20: no such day", x.plans(2, -2), -1);
        CHECK.due("20: n", x.plans(0, -1), -1);
        CHECK.due("20: n", x.plans(5, -1), -1);
        CHECK.due("20: n", x.plans(-1, -1), -1);
        CHECK.due("20: without plans", Check.with("heap a x;").plans(1, -1), -1);
        CHECK.due("20: without bars", new ByHeart().plans(1, -1), -1);
        // What fades makes it better to do the weaker day last.
        x = Check.with("heap a x y;" + law(500, 200, 0, 1000, 4, 2)
                + "plan p from 0 to 1 times 1 slow 0;plan q from 0 to 1 times 2 slow 0;");
        CHECK.due("20: the DAY fades", x.plans(1, -1), 600 * 600);
        CHECK.due("20: the better plan", x.plans(1, 0), 1);
        x.plan(1);
        CHECK.due("20: as told", x.through(0, -1, 0, 0), 600 * 600);
    }

    private static ByHeart ruled(String rules) {
        ByHeart x = Check.with("heap a x y;" + law(500, 100, 0, 500, 4, 0)
                + "plan q from 0 to 1 times 1 slow 0;plan r from 1 to 1 times 2 slow 1;");
        if (Check.tellRules(x, rules) < 0) {
            throw new IllegalStateException("a fault in: " + rules);
        }
        return x;
    }

    private static void practise() {
        ByHeart x = ruled("when day = 1 do q;when day = 3 or day = 4 do r;");
        CHECK.due("23: practise(0)", x.practise(0), 0);
        CHECK.due("23: a day without a key", x.practise(1), 0);
        CHECK.due("23: the day goes on", x.about(7), 1);
        CHECK.due("23: on how many", x.practise(5), 3);
        CHECK.due("23: the day", x.about(7), 6);
        // Of bar 0: 500 on day 1, then faded by 50, 45, 40, 36, 32.
        CHECK.due("23: by the plan and the days", x.bar(0, 0), 297);
        CHECK.due("23: learnt", x.bar(1, 3), 1);
        CHECK.due("23: practise(61)", x.practise(61), -1);
        CHECK.due("23: practise(-1)", x.practise(-1), -1);
        CHECK.due("23: nothing was done", x.about(7), 6);
        CHECK.due("23: practise(60)", x.practise(60), 0);
        for (int i = 0; i < 99; i++) {
            x.days(1000);
        }
        x.days(884);
        CHECK.due("23: above 100000", x.practise(51), -1);
        CHECK.due("23: nothing was done", x.about(7), 99950);
        CHECK.due("23: to 100000", x.practise(50), 0);
        CHECK.due("23: to 100000", x.about(7), 100000);
    }

    private static void reach() {
        ByHeart x = ruled("when 1 do q;");
        CHECK.due("24: it has", x.reach(250000), 0);
        CHECK.due("24: it has", x.reach(0), 0);
        CHECK.due("24: a day", x.reach(250001), 1);
        // Held 450: 725 of 1000 go on at each bar.
        CHECK.due("24: a day", x.reach(525625), 1);
        CHECK.due("24: more", x.reach(525626), 2);
        CHECK.due("24: never", x.reach(1000000), -1);
        CHECK.due("24: a goal that can't be", x.reach(1000001), -1);
        CHECK.due("24: a goal that can't be", x.reach(-1), -1);
        CHECK.due("24: nothing is changed", x.bar(0, 0) + x.about(7), 0);
        CHECK.due("24: no bars", new ByHeart().reach(0), -1);
        CHECK.due("24: all", Check.with("heap a x;" + law(1, 0, 0, 0, 0, 0)).reach(1000000), 0);
        CHECK.due("24: just so much on the 60th day", ruled("when day > 58 do q;").reach(525625), 60);
        CHECK.due("24: not quite", ruled("when day > 58 do q;").reach(525626), -1);
        CHECK.due("24: on the 60th day", ruled("when day > 58 do q;").reach(500000), 60);
        CHECK.due("24: on the 61st", ruled("when day > 59 do q;").reach(500000), -1);
    }

    private static void rule() {
        ByHeart x = ruled("when day = 1 do q;when day > 0 do r;when cuts 1 = 1 and head 0 > 100 do q;");
        CHECK.due("25: none", x.rule(), -1);
        x.diary(0, 1, 1);
        x.slow(0, 0);
        CHECK.due("25: by cuts and head", x.rule(), 0);
        x.untell(false, 0);
        CHECK.due("25: cuts as known now", x.rule(), -1);
        x.days(1);
        CHECK.due("25: the first of two", x.rule(), 0);
        x.days(1);
        CHECK.due("25: the second", x.rule(), 1);
        CHECK.due("25: nothing is changed", x.about(7), 2);
        CHECK.due("25: without any", new ByHeart().rule(), -1);
        CHECK.due("25: behind another piece", Check.tell(x, "heap a x;") + x.rule(), 0);
    }

    private static void value(String e, int want) {
        ByHeart x = ruled("when (" + e + ") = " + Math.abs(want) + " do r;when 1 do q;");
        x.slow(0, 0);
        x.play(1, 1);
        x.days(3);
        CHECK.due("25: " + e + " is " + want, x.rule(), 1);
    }

    private static void values() {
        value("7", 7);
        value("0007", 7);
        value("day", 3);
        // Hold 250: 225, 203, 183; head 500: 450, 405, 365; hold of the other the same as that head.
        value("hold 0", 183);
        value("head 0", 365);
        value("hold 1", 365);
        value("least", 183);
        value("2 + 3 * 4", 14);
        value("(2 + 3) * 4", 20);
        value("20 - 3 - 2", 15);
        value("1 < 2", 1);
        value("2 < 2", 0);
        value("2 > 1", 1);
        value("2 > 2", 0);
        value("2 = 2", 1);
        value("2 = 1", 0);
        value("(0 - 1) < 0", 1);
        value("5 and 3", 1);
        value("5 and 0", 0);
        value("0 or 7", 1);
        value("0 or 0", 0);
        value("1 or 0 and 0", 1);
        value("(1 or 0) and 0", 0);
        value("not 5", 0);
        value("not 0", 1);
        value("not not 5", 1);
        value("not 1 = 2", 1);
        value("(not 1) = 0", 1);
        value("not 0 and 0", 0);
        value("1 + 1 < 3 and 2 * 2 > 3", 1);
        int wrapped = 9999 * 9999 * 9999;
        value("9999 * 9999 * 9999 < 0", wrapped < 0 ? 1 : 0);
        value("9999 * 9999 * 9999 * 9999 + " + 3 + " > 0", wrapped * 9999 + 3 > 0 ? 1 : 0);
    }
}
