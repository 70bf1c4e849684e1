/** Promises 27 to 38: diaries and papers in two times, luck, what hangs together, laws, months. */
public final class TellingPromisesTest {
    private static final Check CHECK = new Check();

    public static void main(String[] args) {
        diary();
        paper();
        untell();
        later();
        cuts();
        luck();
        luckEdges();
        hang();
        laws();
        hidden();
        months();
        back();
        CHECK.finish();
    }

    private static String law(int gain, int fade) {
        return "law gain " + gain + " fade " + fade + " cross 0 weak 0 save 4 ear 2;";
    }

    private static void diary() {
        ByHeart x = Check.with("heap a x y;");
        CHECK.due("27: day", x.diary(-1, 0, 0), -1);
        CHECK.due("27: day", x.diary(1000, 0, 0), -1);
        CHECK.due("27: from", x.diary(0, -1, 0), -1);
        CHECK.due("27: to", x.diary(0, 0, 2), -1);
        CHECK.due("27: to below from", x.diary(0, 1, 0), -1);
        CHECK.due("27: nothing was done", x.about(4), 0);
        CHECK.due("27: the first", x.diary(999, 0, 1), 0);
        CHECK.due("27: the second", x.diary(0, 1, 1), 1);
        for (int i = 2; i < 40; i++) {
            CHECK.due("27: one more", x.diary(0, 1, 1), i);
        }
        CHECK.due("27: there are 40", x.diary(0, 0, 0), -1);
        x.untell(false, 3);
        CHECK.due("27: there are 40, one untold", x.diary(0, 0, 0), -1);
        CHECK.due("27: 40", x.about(4), 40);
    }

    private static void paper() {
        ByHeart x = Check.with("heap a x y;");
        CHECK.due("28: days", x.paper(-1, 0, true), -1);
        CHECK.due("28: days", x.paper(1000, 0, true), -1);
        CHECK.due("28: bar", x.paper(0, 2, true), -1);
        CHECK.due("28: bar", x.paper(0, -1, true), -1);
        CHECK.due("28: nothing was done", x.about(5), 0);
        for (int i = 0; i < 40; i++) {
            CHECK.due("28: its number", x.paper(i == 0 ? 999 : 0, i % 2, false), i);
        }
        CHECK.due("28: there are 40", x.paper(0, 0, true), -1);
        CHECK.due("28: diaries are others", x.diary(0, 0, 0), 0);
    }

    private static void untell() {
        ByHeart x = Check.with("heap a x y;");
        CHECK.due("29: none such", x.untell(false, 0), false);
        x.diary(0, 0, 0);
        CHECK.due("29: of papers none", x.untell(true, 0), false);
        x.paper(0, 0, true);
        CHECK.due("29: a diary", x.untell(false, 0), true);
        CHECK.due("29: already", x.untell(false, 0), false);
        CHECK.due("29: the paper is told still", x.laws(0, 0), 0);
        CHECK.due("29: a paper", x.untell(true, 0), true);
        CHECK.due("29: a paper counts no more", x.laws(0, 0), 201);
        CHECK.due("29: none such", x.untell(true, -1), false);
        CHECK.due("29: none such", x.untell(true, 1), false);
        CHECK.due("29: untold as it was told", x.diaries(0, 0), 0);
    }

    private static void later() {
        ByHeart x = new ByHeart();
        CHECK.due("30: later(0)", x.later(0), 0);
        CHECK.due("30: later(1000)", x.later(1000), 1000);
        CHECK.due("30: later(1001)", x.later(1001), -1);
        CHECK.due("30: later(-1)", x.later(-1), -1);
        for (int i = 2; i < 100; i++) {
            x.later(1000);
        }
        CHECK.due("30: the time", x.later(500), 99500);
        CHECK.due("30: above 100000", x.later(501), -1);
        CHECK.due("30: to 100000", x.later(500), 100000);
        CHECK.due("30: above it", x.later(1), -1);
        CHECK.due("30: about(6)", x.about(6), 100000);
    }

    private static void cuts() {
        ByHeart x = Check.with("heap a x y;heap b z;");
        x.diary(0, 0, 2);
        x.later(5);
        x.diary(0, 2, 2);
        x.diary(0, 1, 2);
        x.later(5);
        x.untell(false, 1);
        // At 0: one at bar 0. From 5 on one at each. From 10 on none at bar 2.
        int[] times = {-1, 0, 4, 5, 9, 10, 11, Integer.MAX_VALUE, Integer.MIN_VALUE};
        int[][] want = {{0, 0, 0}, {1, 0, 0}, {1, 0, 0}, {1, 1, 1}, {1, 1, 1}, {1, 1, 0}, {1, 1, 0}, {1, 1, 0}, {0, 0, 0}};
        for (int t = 0; t < times.length; t++) {
            for (int bar = 0; bar < 3; bar++) {
                CHECK.due("31: cuts(" + bar + ", " + times[t] + ")", x.cuts(bar, times[t]), want[t][bar]);
            }
            CHECK.due("32: how many", x.diaries(0, times[t]), want[t][0] + want[t][1] + want[t][2]);
            CHECK.due("32: by heaps", x.diaries(1, times[t]), want[t][0] + want[t][2]);
        }
        x.diary(3, 0, 0);
        CHECK.due("31: two", x.cuts(0, 10), 2);
        CHECK.due("31: none such", x.cuts(3, 10), -1);
        CHECK.due("31: none such", x.cuts(-1, 10), -1);
        CHECK.due("32: another what", x.diaries(2, 10), -1);
        CHECK.due("32: another what", x.diaries(-1, 10), -1);
    }

    private static void lucks(String call, ByHeart x, int k, long upper, long lower) {
        CHECK.due(call + ": luck(0, k)", x.luck(0, k), upper);
        CHECK.due(call + ": luck(1, k)", x.luck(1, k), lower);
    }

    private static void luck() {
        ByHeart x = Check.with("heap a x y z;heap b x;");
        lucks("33: without diaries", x, 0, -1, -1);
        x.diary(0, 1, 1);
        lucks("33: at least none of one", x, 0, 1, 1);
        x.diary(0, 3, 3);
        lucks("33: at least one of two", x, 0, 3, 4);
        x.diary(0, 0, 1);
        lucks("33: at least two of three", x, 0, 1, 2);
        x.untell(false, 0);
        lucks("33: both of two", x, 0, 1, 4);
        lucks("33: before", x, -1, -1, -1);
        CHECK.due("33: another part", x.luck(2, 0), -1);
        CHECK.due("33: another part", x.luck(-1, 0), -1);
    }

    private static void luckEdges() {
        ByHeart x = Check.with("heap a x x x x x x x x x x x x x x x x x x x x x x x;heap b y;");
        for (int i = 0; i < 12; i++) {
            x.diary(0, i % 2 * 23, 23);
        }
        lucks("33: 12 of 12 at two of 24", x, 0, 1, 8916100448256L);
        x.diary(0, 1, 1);
        CHECK.due("33: spent", x.luck(0, 0), -2);
        CHECK.due("33: spent", x.luck(1, 0), -2);
        x.untell(false, 0);
        // 11 or 12 of 12: 12 * 11 + 1 parts of 12 to the 12th.
        lucks("33: 11 of 12", x, 0, 133, 8916100448256L);
        x = Check.with("heap a x;heap b x;heap c x;");
        for (int i = 0; i < 12; i++) {
            x.diary(0, 1, 1);
        }
        lucks("33: nothing but beginnings", x, 0, 1, 1);
        x = Check.with("heap a x x x x x x x x x x x x x x x x x x x x x x;heap b y;");
        for (int i = 0; i < 12; i++) {
            x.diary(0, i == 0 ? 0 : 1, 1);
        }
        // 23 to the 12th, less 21 to the 12th: no divisor in common.
        lucks("33: long numbers", x, 0, 21914624432020321L - 7355827511386641L, 21914624432020321L);
    }

    private static void hangs(String call, ByHeart x, int k, int upper, int lower) {
        CHECK.due(call + ": hang(0, k)", x.hang(0, k), upper);
        CHECK.due(call + ": hang(1, k)", x.hang(1, k), lower);
    }

    private static void hang() {
        int none = -1000000;
        ByHeart x = Check.with("heap a x y z u v w p;" + law(500, 0));
        hangs("34: nothing is learnt", x, 0, none, none);
        x.slow(0, 2);
        hangs("34: all on one day", x, 0, none, none);
        x.days(1);
        x.slow(3, 3);
        hangs("34: no cuts", x, 0, 0, 1);
        x.diary(0, 1, 1);
        // Bars 1 and 2 on the same day, bar 3 on another.
        hangs("34: below 0", x, 0, -1, 2);
        x.diary(0, 1, 2);
        hangs("34: two cuts count once", x, 0, -1, 2);
        x.later(1);
        x.diary(0, 3, 3);
        hangs("34: above 0", x, 1, 1, 2);
        hangs("34: as known before", x, 0, -1, 2);
        x.days(1);
        x.slow(5, 6);
        // Bar 5 does not count, since bar 4 is not learnt; bar 6 is the third on the same day.
        hangs("34: the one ahead, too", x, 1, 2, 3);
        x.diary(0, 0, 0);
        hangs("34: bar 0 has none ahead", x, 1, 2, 3);
        CHECK.due("34: another part", x.hang(2, 1), none);
        CHECK.due("34: another part", x.hang(-1, 1), none);
        x = Check.with("heap a x y;" + law(500, 0));
        x.slow(0, 0);
        x.days(1);
        x.slow(1, 1);
        hangs("34: not both", x, 0, none, none);
    }

    private static void laws(String call, ByHeart x, int k, int many, int least, int greatest) {
        CHECK.due(call + ": laws(0, k)", x.laws(0, k), many);
        CHECK.due(call + ": laws(1, k)", x.laws(1, k), least);
        CHECK.due(call + ": laws(2, k)", x.laws(2, k), greatest);
    }

    private static void laws() {
        ByHeart x = Check.with("heap a x y;" + law(400, 50));
        x.slow(0, 0);
        laws("35: no papers", x, 0, 201, 0, 200);
        x.paper(1, 0, true);
        laws("35: known, all let it", x, 0, 201, 0, 200);
        x.later(1);
        x.paper(2, 0, true);
        // 400 less by 400 * fade / 1000, twice: at 134 it is 347, then 301; at 135 346, then 300; at 136 346, 299.
        laws("35: known in two days", x, 1, 136, 0, 135);
        laws("35: as known before", x, 0, 201, 0, 200);
        x.later(1);
        x.paper(5, 0, false);
        // At 55: 378, 358, 339, 321, 304; at 56: 378, 357, 338, 320, 303; at 57: 378, 357, 337, 318, 300; at 58: 377, 356, 336, 317, 299.
        laws("35: not known in five", x, 2, 78, 58, 135);
        x.later(1);
        x.paper(0, 1, true);
        laws("35: never known", x, 3, 0, -1, -1);
        x.untell(true, 3);
        laws("35: untold", x, 3, 78, 58, 135);
        CHECK.due("35: another what", x.laws(3, 3), -1);
        CHECK.due("35: another what", x.laws(-1, 3), -1);
        x.slow(0, 0);
        // Known by 640 now.
        x.paper(0, 0, true);
        laws("35: from now", x, 0, 201, 0, 200);
        CHECK.due("35: the told fade stays", x.months(0, 1000), 0);
    }

    private static void hidden() {
        ByHeart x = Check.with("heap a x y z;" + law(400, 0));
        x.play(0, 1);
        x.slow(1, 2);
        // Hold 400, 520, 200; head 0, 400, 400.
        int[][] want = {{0, 0}, {1, 1}, {200, 1}, {201, 1}, {400, 1}, {401, 2}, {520, 2}, {521, 0}, {1000, 0}, {1001, -1}, {-1, -1}};
        for (int[] w : want) {
            CHECK.due("36: hidden(" + w[0] + ")", x.hidden(w[0]), w[1]);
        }
        x = Check.with("heap a x x x x x x x x x x x x x x x x x x x x x x x x;" + law(400, 0));
        x.play(23, 23);
        CHECK.due("36: the last bar", x.hidden(300), 1 << 23);
    }

    private static void months() {
        ByHeart x = Check.with("heap a x y;" + law(500, 100));
        x.play(0, 0);
        // 500, 450, 405, 365.
        int[][] want = {{501, 0}, {500, 1}, {451, 1}, {450, 2}, {406, 2}, {405, 3}, {1000, 0}, {1001, -1}, {-1, -1}, {0, -1}, {9, -1}};
        for (int[] w : want) {
            CHECK.due("37: months(0, " + w[0] + ")", x.months(0, w[0]), w[1]);
        }
        CHECK.due("37: not held", x.months(1, 1), 0);
        CHECK.due("37: none such", x.months(2, 1), -1);
        CHECK.due("37: none such", x.months(-1, 1), -1);
        CHECK.due("37: nothing is changed", x.bar(0, 0) + x.about(7), 500);
        x = Check.with("heap a x;" + law(500, 0));
        x.play(0, 0);
        CHECK.due("37: more than 5000", x.months(0, 500), -1);
    }

    private static void back() {
        ByHeart x = Check.with("heap a x y;" + law(500, 0));
        CHECK.due("38: none", x.back(0, 0), -1);
        x.play(0, 0);
        CHECK.due("38: no old one", x.back(0, 0), 0);
        CHECK.due("38: no old one", x.back(0, 1), 1);
        x.play(0, 0);
        x.finger(0);
        CHECK.due("38: only an old one", x.back(0, 0), 1);
        CHECK.due("38: only an old one", x.back(0, 1), 1);
        x.play(0, 0);
        // 750 of 750 and 500.
        CHECK.due("38: upper", x.back(0, 0), 3);
        CHECK.due("38: lower", x.back(0, 1), 5);
        CHECK.due("38: another part", x.back(0, 2), -1);
        CHECK.due("38: another part", x.back(0, -1), -1);
        CHECK.due("38: none", x.back(1, 1), -1);
        CHECK.due("38: none such", x.back(2, 0), -1);
        CHECK.due("38: none such", x.back(-1, 0), -1);
    }
}
