/** Where ==== 4 and the promises 27 to 38 name an edge: the two times, diaries, papers, luck, laws, months. */
public final class TellingEdgesTest {
    private static final Check CHECK = new Check();
    private static final int MIN = Integer.MIN_VALUE;
    private static final int MAX = Integer.MAX_VALUE;
    private static final int NONE = -1000000;

    public static void main(String[] args) {
        diaryRange();
        diaryForty();
        paperRange();
        paperForty();
        untellRange();
        laterRange();
        laterLimit();
        knownAt();
        knownAtOfPapers();
        toldAndUntoldAtOnce();
        cutsRange();
        diariesRange();
        byHeaps();
        luckRange();
        luckSpent();
        luckOdds();
        hangRange();
        hangEdges();
        lawsRange();
        lawsAtThreeHundred();
        lawsGreatestFade();
        lawsManyDays();
        lawsFromNow();
        hiddenRange();
        hiddenLevels();
        monthsRange();
        monthsLevels();
        monthsLongest();
        backRange();
        backFractions();
        behindAnotherPiece();
        CHECK.finish();
    }

    private static void due(String call, long got, long want) {
        CHECK.due(call, got, want);
    }

    private static String law(int gain, int fade) {
        return "law gain " + gain + " fade " + fade + " cross 0 weak 0 save 4 ear 2;";
    }

    private static String looks(int many) {
        return "heap a" + " x".repeat(many) + ";";
    }

    // ---- promises 27 to 30 ----

    private static void diaryRange() {
        ByHeart x = Check.with(looks(24));
        int[][] none = {{-1, 0, 0}, {1000, 0, 0}, {MIN, 0, 0}, {MAX, 0, 0}, {0, -1, 0}, {0, -1, -1}, {0, 0, 24}, {0, 24, 24},
            {0, 1, 0}, {0, 23, 22}, {0, MIN, 0}, {0, 0, MAX}, {0, MAX, MAX}, {0, 0, -1}};
        for (int[] n : none) {
            due("27: diary(" + n[0] + ", " + n[1] + ", " + n[2] + ")", x.diary(n[0], n[1], n[2]), -1);
            due("27: nothing is done", x.about(4) + x.diaries(0, 0), 0);
        }
        int[][] some = {{0, 0, 0}, {999, 0, 23}, {0, 23, 23}, {999, 22, 23}};
        for (int i = 0; i < some.length; i++) {
            due("27: its number", x.diary(some[i][0], some[i][1], some[i][2]), i);
        }
        due("27: four", x.about(4), 4);
        due("27: without bars", new ByHeart().diary(0, 0, 0), -1);
    }

    private static void diaryForty() {
        ByHeart x = Check.with("heap a x y;");
        for (int i = 0; i < 40; i++) {
            due("27: its number", x.diary(i, i % 2, 1), i);
        }
        due("27: there are 40", x.diary(0, 0, 0), -1);
        due("27: nothing is done", x.about(4) * 100 + x.diaries(0, 0), 4040);
        CHECK.due("29: the last", x.untell(false, 39), true);
        CHECK.due("29: the first", x.untell(false, 0), true);
        due("27: there are 40, though two are untold", x.diary(0, 0, 0), -1);
        due("42: 40", x.about(4), 40);
        due("32: 38 count", x.diaries(0, 0), 38);
        due("28: papers are counted for themselves", x.paper(0, 0, true), 0);
        Check.tell(x, "heap a x;");
        due("27: from 0 again, of another piece", x.diary(0, 0, 0), 0);
    }

    private static void paperRange() {
        ByHeart x = Check.with(looks(24));
        int[][] none = {{-1, 0}, {1000, 0}, {MIN, 0}, {MAX, 0}, {0, -1}, {0, 24}, {0, MIN}, {0, MAX}};
        for (int[] n : none) {
            due("28: paper(" + n[0] + ", " + n[1] + ", true)", x.paper(n[0], n[1], true), -1);
            due("28: paper(" + n[0] + ", " + n[1] + ", false)", x.paper(n[0], n[1], false), -1);
            due("28: nothing is done", x.about(5) + x.laws(0, 0), 201);
        }
        int[][] some = {{0, 0}, {999, 0}, {0, 23}, {999, 23}};
        for (int i = 0; i < some.length; i++) {
            due("28: its number", x.paper(some[i][0], some[i][1], i % 2 == 0), i);
        }
        due("28: four", x.about(5), 4);
        due("28: without bars", new ByHeart().paper(0, 0, true), -1);
    }

    private static void paperForty() {
        ByHeart x = Check.with("heap a x y;");
        for (int i = 0; i < 40; i++) {
            due("28: its number", x.paper(i, i % 2, i != 39), i);
        }
        due("28: there are 40", x.paper(0, 0, true), -1);
        due("28: nothing is done", x.about(5), 40);
        for (int i = 0; i < 39; i++) {
            CHECK.due("29: one less", x.untell(true, i), true);
        }
        due("35: the 40th, not known, counts", x.laws(0, 0), 201);
        due("28: there are 40, though most are untold", x.paper(0, 0, true), -1);
        due("27: diaries are counted for themselves", x.diary(0, 0, 0), 0);
    }

    private static void untellRange() {
        ByHeart x = Check.with("heap a x y;");
        x.diary(0, 0, 0);
        x.diary(0, 1, 1);
        x.paper(0, 0, true);
        int[] noDiary = {-1, 2, MIN, MAX};
        int[] noPaper = {-1, 1, 2, MIN, MAX};
        for (int which : noDiary) {
            CHECK.due("29: untell(false, " + which + ")", x.untell(false, which), false);
        }
        for (int which : noPaper) {
            CHECK.due("29: untell(true, " + which + ")", x.untell(true, which), false);
        }
        due("29: nothing is done", x.diaries(0, 0) * 10 + x.laws(0, 0), 20);
        CHECK.due("29: the last", x.untell(false, 1), true);
        CHECK.due("29: it is so already", x.untell(false, 1), false);
        x.later(1);
        CHECK.due("29: it is so already", x.untell(false, 1), false);
        due("29: since when it was first", x.diaries(0, 0), 1);
        CHECK.due("29: a paper", x.untell(true, 0), true);
        CHECK.due("29: it is so already", x.untell(true, 0), false);
        CHECK.due("29: the other diary", x.untell(false, 0), true);
        CHECK.due("29: none at all", new ByHeart().untell(false, 0), false);
        CHECK.due("29: none at all", new ByHeart().untell(true, 0), false);
    }

    private static void laterRange() {
        ByHeart x = new ByHeart();
        int[] refused = {-1, 1001, MIN, MAX};
        for (int by : refused) {
            due("30: later(" + by + ")", x.later(by), -1);
            due("30: later(" + by + ") does nothing", x.about(6), 0);
        }
        due("30: none", x.later(0), 0);
        due("30: one", x.later(1), 1);
        due("30: 1,000", x.later(1000), 1001);
        due("17: the day is another one", x.about(7), 0);
        x.days(5);
        due("30: the time is another one", x.about(6), 1001);
        Check.tell(x, "heap a x;");
        due("4: the time stays", x.about(6), 1001);
    }

    private static ByHeart atTime(int time) {
        ByHeart x = Check.with("heap a x;");
        while (x.about(6) < time) {
            x.later(Math.min(1000, time - x.about(6)));
        }
        return x;
    }

    private static void laterLimit() {
        ByHeart x = atTime(99000);
        due("30: to 100,000", x.later(1000), 100000);
        due("30: above it", x.later(1), -1);
        due("30: above it", x.later(1000), -1);
        due("30: none is not", x.later(0), 100000);
        x.diary(0, 0, 0);
        due("31: told at the last time", x.cuts(0, 100000) * 10 + x.cuts(0, 99999), 10);
        x = atTime(99001);
        due("30: above 100,000", x.later(1000), -1);
        due("30: nothing is done", x.about(6), 99001);
        due("30: to 100,000", x.later(999), 100000);
    }

    // ---- the two times ----

    private static void knownAt() {
        ByHeart x = Check.with("heap a x y;");
        x.later(5);
        x.diary(0, 0, 0);
        x.later(2);
        x.untell(false, 0);
        x.later(3);
        x.diary(0, 1, 1);
        // The first from 5 to 6, the second from 10 on.
        int[][] cases = {{MIN, 0, 0}, {-1, 0, 0}, {0, 0, 0}, {4, 0, 0}, {5, 1, 0}, {6, 1, 0}, {7, 0, 0}, {9, 0, 0}, {10, 0, 1}, {11, 0, 1}, {MAX, 0, 1}};
        for (int[] c : cases) {
            due("31: cuts(0, " + c[0] + ")", x.cuts(0, c[0]), c[1]);
            due("31: cuts(1, " + c[0] + ")", x.cuts(1, c[0]), c[2]);
            due("32: diaries(0, " + c[0] + ")", x.diaries(0, c[0]), c[1] + c[2]);
            due("32: diaries(1, " + c[0] + ")", x.diaries(1, c[0]), c[1]);
            // One at the heap's beginning: odds 1 of 2; one elsewhere: at least none is sure.
            due("33: luck(0, " + c[0] + ")", x.luck(0, c[0]), c[1] + c[2] > 0 ? 1 : -1);
            due("33: luck(1, " + c[0] + ")", x.luck(1, c[0]), c[1] > 0 ? 2 : c[2] > 0 ? 1 : -1);
        }
    }

    private static void knownAtOfPapers() {
        ByHeart x = Check.with("heap a x;" + law(300, 0));
        x.later(5);
        x.paper(0, 0, true);
        x.later(2);
        x.untell(true, 0);
        int[][] cases = {{MIN, 201}, {4, 201}, {5, 0}, {6, 0}, {7, 201}, {MAX, 201}};
        for (int[] c : cases) {
            due("35: laws(0, " + c[0] + ")", x.laws(0, c[0]), c[1]);
            due("35: laws(1, " + c[0] + ")", x.laws(1, c[0]), c[1] > 0 ? 0 : -1);
            due("35: laws(2, " + c[0] + ")", x.laws(2, c[0]), c[1] > 0 ? 200 : -1);
        }
    }

    private static void toldAndUntoldAtOnce() {
        ByHeart x = Check.with("heap a x;");
        x.later(5);
        x.diary(0, 0, 0);
        x.paper(0, 0, true);
        x.untell(false, 0);
        x.untell(true, 0);
        int[] times = {4, 5, 6, MAX, MIN};
        for (int k : times) {
            due("==== 4: never counted", x.cuts(0, k), 0);
            due("==== 4: never counted", x.diaries(0, k), 0);
            due("==== 4: never counted", x.luck(0, k), -1);
            due("==== 4: never counted", x.laws(0, k), 201);
        }
        due("27: told all the same", x.diary(0, 0, 0), 1);
    }

    // ---- promises 31 to 34 ----

    private static void cutsRange() {
        ByHeart x = Check.with(looks(24));
        x.diary(0, 0, 23);
        x.diary(0, 23, 23);
        x.diary(0, 23, 23);
        // Where one ends, or is in its midst, none begins.
        for (int bar = 0; bar < 24; bar++) {
            due("31: cuts(" + bar + ", 0)", x.cuts(bar, 0), bar == 0 ? 1 : bar == 23 ? 2 : 0);
        }
        int[] none = {-1, 24, MIN, MAX};
        for (int bar : none) {
            due("31: cuts(" + bar + ", 0)", x.cuts(bar, 0), -1);
            due("31: cuts(" + bar + ", -1)", x.cuts(bar, -1), -1);
        }
        x = Check.with("heap a x;");
        for (int i = 0; i < 40; i++) {
            x.diary(0, 0, 0);
        }
        due("31: 40 at one", x.cuts(0, 0), 40);
    }

    private static void diariesRange() {
        ByHeart x = Check.with("heap a x y;");
        due("32: none", x.diaries(0, 0), 0);
        due("32: none", x.diaries(1, 0), 0);
        int[] others = {-1, 2, MIN, MAX};
        for (int what : others) {
            due("32: diaries(" + what + ", 0)", x.diaries(what, 0), -1);
            due("32: diaries(" + what + ", 0) without a piece", new ByHeart().diaries(what, 0), -1);
        }
        for (int i = 0; i < 40; i++) {
            x.diary(0, i % 2, 1);
        }
        due("32: 40", x.diaries(0, 0), 40);
        due("32: 20", x.diaries(1, 0), 20);
    }

    private static void byHeaps() {
        ByHeart x = Check.with("heap a x y;heap b x;heap c x y z;");
        // Heaps begin at 0, 2, 3.
        int[] want = {1, 0, 1, 1, 0, 0};
        int many = 0;
        for (int bar = 0; bar < 6; bar++) {
            x.diary(0, bar, 5);
            many += want[bar];
            due("32: with bar " + bar, x.diaries(1, 0), many);
        }
    }

    private static void luckRange() {
        ByHeart x = Check.with("heap a x y;");
        int[] parts = {-1, 0, 1, 2, MIN, MAX};
        for (int part : parts) {
            due("33: without diaries: luck(" + part + ", 0)", x.luck(part, 0), -1);
            due("33: without a piece: luck(" + part + ", 0)", new ByHeart().luck(part, 0), -1);
        }
        x.diary(0, 0, 0);
        due("33: upper", x.luck(0, 0), 1);
        due("33: lower", x.luck(1, 0), 2);
        int[] others = {-1, 2, MIN, MAX};
        for (int part : others) {
            due("33: luck(" + part + ", 0)", x.luck(part, 0), -1);
        }
        x.untell(false, 0);
        due("33: untold, there are none", x.luck(0, 0), -1);
    }

    private static void luckSpent() {
        ByHeart x = Check.with("heap a" + " x".repeat(24) + ";");
        for (int i = 0; i < 12; i++) {
            x.diary(0, 0, 0);
        }
        // 24 to the 12th: all twelve at bar 0.
        due("33: 12 are not more than 12", x.luck(0, 0), 1);
        due("33: 24 to the 12th", x.luck(1, 0), 36520347436056576L);
        x.later(1);
        x.diary(0, 5, 5);
        due("33: 13 are", x.luck(0, 1), -2);
        due("33: 13 are", x.luck(1, 1), -2);
        due("33: 12 as known ahead", x.luck(1, 0), 36520347436056576L);
        x.later(1);
        x.untell(false, 0);
        // 11 or 12 of 12: 12 * 23 + 1.
        due("33: 12 again", x.luck(0, 2), 277);
        due("33: 24 to the 12th", x.luck(1, 2), 36520347436056576L);
        due("33: 13 as known ahead", x.luck(0, 1), -2);
        for (int i = 13; i < 40; i++) {
            x.diary(0, 0, 0);
        }
        due("33: 39", x.luck(0, 2), -2);
    }

    private static void luckOdds() {
        ByHeart x = Check.with("heap a x;heap b x;heap c x;");
        x.diary(0, 1, 1);
        due("33: all bars begin heaps", x.luck(0, 0) * 10 + x.luck(1, 0), 11);
        x = Check.with("heap a x y z;");
        x.diary(0, 1, 1);
        due("33: at least none", x.luck(0, 0) * 10 + x.luck(1, 0), 11);
        x.diary(0, 0, 1);
        // At least one of two: 9 less 4 of 9.
        due("33: upper", x.luck(0, 0), 5);
        due("33: lower", x.luck(1, 0), 9);
        x.diary(0, 0, 1);
        // At least two of three: 3 * 2 and 1 of 27.
        due("33: upper", x.luck(0, 0), 7);
        due("33: lower", x.luck(1, 0), 27);
        x = Check.with("heap a x y;heap b x y;");
        x.diary(0, 0, 0);
        x.diary(0, 2, 2);
        due("33: 4 of 16, in lowest terms", x.luck(0, 0), 1);
        due("33: 4 of 16, in lowest terms", x.luck(1, 0), 4);
    }

    private static void hangs(String call, ByHeart x, int upper, int lower) {
        due(call + ": hang(0, 0)", x.hang(0, 0), upper);
        due(call + ": hang(1, 0)", x.hang(1, 0), lower);
    }

    private static void hangRange() {
        hangs("34: without a piece", new ByHeart(), NONE, NONE);
        ByHeart x = Check.with("heap a x y z;" + law(500, 0));
        hangs("34: none is learnt", x, NONE, NONE);
        x.slow(0, 1);
        hangs("34: only on the same day", x, NONE, NONE);
        x.days(1);
        x.slow(2, 2);
        hangs("34: both", x, 0, 1);
        int[] others = {-1, 2, MIN, MAX};
        for (int part : others) {
            due("34: hang(" + part + ", 0)", x.hang(part, 0), NONE);
        }
        x = Check.with("heap a x y z;" + law(500, 0));
        x.slow(0, 0);
        x.days(1);
        x.slow(1, 1);
        x.days(1);
        x.slow(2, 2);
        hangs("34: only on another day", x, NONE, NONE);
        x = Check.with("heap a x;" + law(500, 0));
        x.slow(0, 0);
        hangs("34: bar 0 alone", x, NONE, NONE);
    }

    private static void hangEdges() {
        // Learnt: 0 and 1 on day 0; 2 on day 1; 4 not; 5 on day 1; 3 not.
        ByHeart x = Check.with("heap a x y z u v w;" + law(500, 0));
        x.slow(0, 1);
        x.days(1);
        x.slow(2, 2);
        x.slow(5, 5);
        x.diary(0, 0, 0);
        x.diary(0, 3, 3);
        x.diary(0, 5, 5);
        hangs("34: neither bar 0, nor those not learnt, nor one behind them", x, 0, 1);
        x.diary(0, 2, 2);
        hangs("34: all of the one, none of the other", x, 1, 1);
        x.diary(0, 1, 1);
        hangs("34: all of both", x, 0, 1);
        CHECK.due("29", x.untell(false, 3), true);
        hangs("34: none of the one, all of the other", x, -1, 1);
        // One that was held, and is not any more, is learnt all the same.
        x.finger(1);
        hangs("34: held no more", x, -1, 1);
        due("34: as known ahead", x.hang(0, -1), 0);
        due("34: as known ahead", x.hang(1, -1), 1);
        // Of four on other days two, of two on the same day one: 0; of three ones one less: in lowest terms.
        x = Check.with("heap a p q r s t u v;" + law(500, 0));
        x.slow(0, 2);
        for (int bar = 3; bar < 7; bar++) {
            x.days(1);
            x.slow(bar, bar);
        }
        x.diary(0, 3, 3);
        x.diary(0, 4, 4);
        x.diary(0, 1, 1);
        hangs("34: 2 of 4 less 1 of 2", x, 0, 1);
        x.diary(0, 5, 5);
        hangs("34: 3 of 4 less 1 of 2", x, 1, 4);
        x.diary(0, 2, 2);
        hangs("34: 3 of 4 less 2 of 2", x, -1, 4);
    }

    // ---- promise 35 ----

    private static void laws(String call, ByHeart x, int many, int least, int greatest) {
        due(call + ": laws(0, 0)", x.laws(0, 0), many);
        due(call + ": laws(1, 0)", x.laws(1, 0), least);
        due(call + ": laws(2, 0)", x.laws(2, 0), greatest);
    }

    private static ByHeart headOf(int head) {
        ByHeart x = Check.with("heap a x;" + law(head, 77));
        x.slow(0, 0);
        due("head", x.bar(0, 1), head);
        return x;
    }

    private static void lawsRange() {
        ByHeart x = Check.with("heap a x;");
        laws("35: no paper, all of 0 .. 200", x, 201, 0, 200);
        laws("35: no piece", new ByHeart(), 201, 0, 200);
        int[] others = {-1, 3, MIN, MAX};
        for (int what : others) {
            due("35: laws(" + what + ", 0)", x.laws(what, 0), -1);
        }
        x.paper(0, 0, true);
        laws("35: none lets all", x, 0, -1, -1);
        for (int what : others) {
            due("35: laws(" + what + ", 0)", x.laws(what, 0), -1);
        }
    }

    private static void lawsAtThreeHundred() {
        int[] heads = {299, 300};
        for (int head : heads) {
            ByHeart x = headOf(head);
            x.paper(0, 0, true);
            laws("35: head " + head + " is known", x, head == 300 ? 201 : 0, head == 300 ? 0 : -1, head == 300 ? 200 : -1);
            x.untell(true, 0);
            x.paper(0, 0, false);
            laws("35: head " + head + " is not", x, head == 300 ? 0 : 201, head == 300 ? -1 : 0, head == 300 ? -1 : 200);
        }
        // 300 * 3 / 1000 is 0, 300 * 4 / 1000 is 1.
        ByHeart x = headOf(300);
        x.paper(1, 0, true);
        laws("35: known a day from now", x, 4, 0, 3);
        x.paper(1, 0, false);
        laws("35: and not", x, 0, -1, -1);
        x.untell(true, 0);
        laws("35: not known a day from now", x, 197, 4, 200);
        x.paper(0, 0, true);
        laws("35: now it is", x, 197, 4, 200);
    }

    private static void lawsGreatestFade() {
        // By 200 of 1000: 375 less 75 and 374 less 74 are 300, 373 less 74 is 299; by 199 (less 74) 299, by 198 (less 73) 300.
        int[][] cases = {{375, 201, 200}, {374, 201, 200}, {373, 199, 198}};
        for (int[] c : cases) {
            ByHeart x = headOf(c[0]);
            x.paper(1, 0, true);
            laws("35: head " + c[0], x, c[1], 0, c[2]);
            x.untell(true, 0);
            x.paper(1, 0, false);
            laws("35: head " + c[0] + ", not known", x, 201 - c[1], c[1] == 201 ? -1 : c[2] + 1, c[1] == 201 ? -1 : 200);
        }
    }

    private static void lawsManyDays() {
        // By 3 of 1000 it comes down to 333 and stays, by 4 to 249.
        ByHeart x = headOf(500);
        x.paper(999, 0, true);
        laws("35: 999 days", x, 4, 0, 3);
        x.untell(true, 0);
        x.paper(999, 0, false);
        laws("35: 999 days, not known", x, 197, 4, 200);
        // By 1 nothing fades at all; by 2 it comes from 500 to 499.
        x = headOf(500);
        x.paper(2, 0, true);
        // 500 twice less: by 200 400, 320.
        laws("35: two days", x, 201, 0, 200);
        x.paper(3, 0, true);
        // By 200 it is 256 then; by 157: 422, 356, 301; by 158: 421, 355, 299.
        laws("35: three days", x, 158, 0, 157);
    }

    private static void lawsFromNow() {
        ByHeart x = headOf(300);
        x.paper(1, 0, true);
        laws("35: from now", x, 4, 0, 3);
        x.slow(0, 0);
        // Head 510 now: less 200 of 1000 it is 408.
        laws("35: from another now", x, 201, 0, 200);
        x.days(1);
        // Less 77 of 1000: 471; by 200 it is 377.
        laws("35: the fade told is for days", x, 201, 0, 200);
        due("17: it stays told", x.bar(0, 1), 471);
    }

    // ---- promises 36 to 38 ----

    private static void hiddenRange() {
        ByHeart x = Check.with(looks(24) + law(500, 0));
        x.play(0, 23);
        int[] none = {-1, 1001, MIN, MAX};
        for (int level : none) {
            due("36: hidden(" + level + ")", x.hidden(level), -1);
            due("36: hidden(" + level + ") without a piece", new ByHeart().hidden(level), -1);
        }
        due("36: at 0 no head is below it", x.hidden(0), 0);
        due("36: all 24", x.hidden(1), 16777215);
        due("36: no less than 500", x.hidden(500), 16777215);
        due("36: less than 501", x.hidden(501), 0);
        due("36: none is held by 1000", x.hidden(1000), 0);
        x.finger(0);
        due("36: all but the first", x.hidden(1), 16777214);
        x.finger(23);
        due("36: nor the last", x.hidden(1), 8388606);
        due("36: without a piece", new ByHeart().hidden(0) + new ByHeart().hidden(1000), 0);
    }

    private static void hiddenLevels() {
        // Hold 500 and then 625, head 0 and then 500.
        ByHeart x = Check.with("heap a x;" + law(500, 0));
        x.play(0, 0);
        x.slow(0, 0);
        due("36: head is no less than 500", x.hidden(500), 0);
        due("36: it is than 501", x.hidden(501), 1);
        due("36: hold is no less than 625", x.hidden(625), 1);
        due("36: it is than 626", x.hidden(626), 0);
    }

    private static void monthsRange() {
        ByHeart x = Check.with(looks(24) + law(500, 100));
        x.play(23, 23);
        int[][] none = {{-1, 1}, {24, 1}, {MIN, 1}, {MAX, 1}, {23, -1}, {23, 1001}, {23, MIN}, {23, MAX}, {0, -1}, {0, 1001}};
        for (int[] n : none) {
            due("37: months(" + n[0] + ", " + n[1] + ")", x.months(n[0], n[1]), -1);
        }
        due("37: without a piece", new ByHeart().months(0, 0), -1);
        due("37: level 0 takes for ever", x.months(23, 0), -1);
        due("37: level 0, not held", x.months(0, 0), -1);
        due("37: level 1, not held", x.months(0, 1), 0);
        due("37: level 1000", x.months(23, 1000), 0);
    }

    private static void monthsLevels() {
        // By 200: 500, 400, 320, .. 5 behind 23 days, 4 behind 24.
        ByHeart x = Check.with("heap a x;" + law(500, 200));
        x.play(0, 0);
        int[][] cases = {{501, 0}, {500, 1}, {401, 1}, {400, 2}, {6, 23}, {5, 24}, {4, -1}, {1, -1}};
        for (int[] c : cases) {
            due("37: months(0, " + c[0] + ")", x.months(0, c[0]), c[1]);
        }
        due("37: no day goes by", x.about(7) * 1000 + x.bar(0, 0), 500);
        x.days(23);
        due("37: from then on", x.months(0, 5), 1);
    }

    private static void monthsLongest() {
        // By 2 of 1000, one a day, from 999 down to 499, where it stays.
        ByHeart x = Check.with("heap a x;" + law(500, 2));
        for (int i = 0; i < 12; i++) {
            x.play(0, 0);
        }
        int[][] cases = {{1000, 0}, {999, 1}, {998, 2}, {501, 499}, {500, 500}, {499, -1}};
        for (int[] c : cases) {
            due("37: months(0, " + c[0] + ")", x.months(0, c[0]), c[1]);
        }
        int[] fades = {0, 1};
        for (int fade : fades) {
            x = Check.with("heap a x;" + law(500, fade));
            x.play(0, 0);
            due("37: fade " + fade + ", more than 5,000", x.months(0, 500), -1);
            due("37: fade " + fade + ", below it now", x.months(0, 501), 0);
        }
    }

    private static void backRange() {
        ByHeart x = Check.with(looks(24) + law(500, 0));
        x.play(23, 23);
        int[] none = {-1, 24, MIN, MAX};
        for (int bar : none) {
            due("38: back(" + bar + ", 0)", x.back(bar, 0), -1);
            due("38: back(" + bar + ", 1)", x.back(bar, 1), -1);
        }
        int[] others = {-1, 2, MIN, MAX};
        for (int part : others) {
            due("38: back(23, " + part + ")", x.back(23, part), -1);
            due("38: back(0, " + part + ")", x.back(0, part), -1);
        }
        due("38: both are 0", x.back(0, 0), -1);
        due("38: both are 0", x.back(0, 1), -1);
        due("38: of the last bar", x.back(23, 0), 0);
        due("38: in lowest terms", x.back(23, 1), 1);
        due("38: without a piece", new ByHeart().back(0, 0), -1);
    }

    private static void backFractions() {
        ByHeart x = Check.with("heap a x;" + law(500, 0));
        x.play(0, 0);
        x.finger(0);
        due("38: old alone", x.back(0, 0) * 10 + x.back(0, 1), 11);
        x.play(0, 0);
        due("38: 500 of 1000", x.back(0, 0) * 10 + x.back(0, 1), 12);
        x.play(0, 0);
        due("38: 500 of 1250", x.back(0, 0) * 10 + x.back(0, 1), 25);
        x.finger(0);
        x.slow(0, 0);
        due("38: 750 of 1000", x.back(0, 0) * 10 + x.back(0, 1), 34);
        x.finger(0);
        x.finger(0);
        due("38: both are 0 again", x.back(0, 0), -1);
        due("38: both are 0 again", x.back(0, 1), -1);
        x = Check.with("heap a x;" + law(1, 0));
        x.play(0, 0);
        due("38: 0 of 1", x.back(0, 0) * 10 + x.back(0, 1), 1);
        x.finger(0);
        due("38: 1 of 1", x.back(0, 0) * 10 + x.back(0, 1), 11);
    }

    private static void behindAnotherPiece() {
        ByHeart x = Check.with("heap a x y;" + law(500, 0));
        x.later(3);
        x.diary(0, 0, 0);
        x.paper(0, 0, true);
        Check.tell(x, "heap a x y;" + law(500, 0));
        due("4: no diaries", x.about(4) + x.diaries(0, 3) + x.cuts(0, 3), 0);
        due("4: no papers", x.about(5), 0);
        due("4: all laws", x.laws(0, 3), 201);
        CHECK.due("4: none to untell", x.untell(false, 0) || x.untell(true, 0), false);
        due("33: without diaries", x.luck(0, 3), -1);
    }
}
