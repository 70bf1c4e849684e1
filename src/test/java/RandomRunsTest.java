import java.util.Random;

/** Long drawn runs of calls, each answered by the model too. */
public final class RandomRunsTest {
    private static final int RUNS = 400;

    private final Check check = new Check();
    private final Random random = new Random(20261118);
    private final Texts texts = new Texts(random);
    private ByHeart x;
    private Model y;
    private String told;

    public static void main(String[] args) {
        RandomRunsTest test = new RandomRunsTest();
        for (int run = 0; run < RUNS && test.check.wrong() < 20; run++) {
            test.run(run);
        }
        test.check.finish();
    }

    private void run(int run) {
        x = new ByHeart();
        y = new Model();
        told = "";
        int calls = 0;
        while (calls < 512 && check.wrong() < 20) {
            int before = check.wrong();
            int kind = random.nextInt(100);
            if (calls == 0 || kind == 0) {
                calls += tellPiece();
            } else if (kind <= 2) {
                calls += tellRules();
            } else {
                calls++;
                call(random.nextInt(60));
            }
            if (check.wrong() > before) {
                System.out.println("  in run " + run + ", call " + calls + ", text " + told.replace('\n', '_'));
            }
        }
    }

    private void due(String call, long got, long want) {
        check.due(call, got, want);
    }

    private int type(String text) {
        told = told.isEmpty() || text.startsWith("heap") ? text : told + " | " + text;
        int calls = 2;
        for (int i = 0; i < text.length(); i += 20) {
            int[] n = new int[5];
            for (int k = 0; k < 5; k++) {
                n[k] = Check.four(text, i + 4 * k);
            }
            due("feed", x.feed(n[0], n[1], n[2], n[3], n[4]), y.feed(n));
            calls++;
        }
        due("end", x.end(text.length()), y.end(text.length()));
        return calls;
    }

    private int tellPiece() {
        due("end(0)", x.end(0), y.end(0));
        String text = texts.piece();
        if (random.nextInt(3) == 0) {
            text = texts.spoilt(text);
        }
        int calls = type(text);
        due("piece()", x.piece(), y.piece());
        return calls + 1 + askFault();
    }

    private int tellRules() {
        due("end(0)", x.end(0), y.end(0));
        String text = texts.rules(y.about(0), y.about(3));
        if (random.nextInt(3) == 0) {
            text = texts.spoilt(text);
        }
        int calls = type(text);
        due("rules()", x.rules(), y.rules());
        return calls + 1 + askFault();
    }

    private int askFault() {
        for (int what = -1; what <= 2; what++) {
            due("fault(" + what + ")", x.fault(what), y.fault(what));
        }
        return 4;
    }

    /** A bar most times. */
    private int bar() {
        int n = y.about(0);
        return random.nextInt(12) == 0 ? random.nextInt(30) - 3 : random.nextInt(Math.max(1, n));
    }

    private int from(int least, int most) {
        return random.nextInt(10) == 0 ? least - 2 + random.nextInt(most - least + 5) : least + random.nextInt(most - least + 1);
    }

    private int k() {
        int n = random.nextInt(10);
        return n == 0 ? Integer.MAX_VALUE : n == 1 ? -1 : random.nextInt(y.about(6) + 2);
    }

    private void call(int kind) {
        int a = bar();
        int b = random.nextInt(6) == 0 ? bar() : a + random.nextInt(8);
        int k = k();
        int what = from(0, 6);
        boolean is = random.nextBoolean();
        switch (kind) {
            case 0, 1 -> due("bar(" + a + "," + what + ")", x.bar(a, what), y.bar(a, what));
            case 2 -> due("months(" + a + ",1)", x.months(a, 1), y.months(a, 1));
            case 3 -> due("set", x.set(what % 3, a, is) ? 1 : 0, y.set(what % 3, a, is) ? 1 : 0);
            case 4 -> due("alike(" + a + "," + b + ")", x.alike(a, b), y.alike(a, b));
            case 5 -> due("fork(" + what + ")", x.fork(what), y.fork(what));
            case 6 -> due("forks()", x.forks(), y.forks());
            case 7, 8 -> {
                int to = random.nextInt(3) == 0 ? -random.nextInt(4) : bar();
                due("behind(" + a + "," + to + ")", x.behind(a, to), y.behind(a, to));
            }
            case 9 -> due("saved(" + a + ")", x.saved(a), y.saved(a));
            case 10, 11, 12, 13, 14 -> due("play(" + a + "," + b + ")", x.play(a, b), y.play(a, b));
            case 15, 16 -> due("slow(" + a + "," + b + ")", x.slow(a, b), y.slow(a, b));
            case 17, 18, 19 -> due("latest(" + what + ")", x.latest(what), y.latest(what));
            case 20 -> {
                int n = random.nextInt(8) == 0 ? from(0, 1000) : random.nextInt(4);
                due("days(" + n + ")", x.days(n), y.days(n));
            }
            case 21, 22, 23 -> {
                int jolt = is ? -1 : bar();
                int odds = from(0, 1000);
                due("through(" + a + "," + jolt + "," + odds + "," + what + ")", x.through(a, jolt, odds, what), y.through(a, jolt, odds, what));
            }
            case 24 -> {
                if (random.nextInt(6) == 0) {
                    put();
                }
            }
            case 25 -> {
                int n = random.nextInt(6);
                if (Math.pow(y.about(3), n) < 30) {
                    int w = from(-1, n);
                    due("plans(" + n + "," + w + ")", x.plans(n, w), y.plans(n, w));
                }
            }
            case 26, 27 -> due("plan", x.plan(what), y.plan(what));
            case 28 -> {
                int n = random.nextInt(8) == 0 ? from(0, 60) : random.nextInt(4);
                due("practise(" + n + ")", x.practise(n), y.practise(n));
            }
            case 29 -> {
                int goal = is ? random.nextInt(1000001) : from(0, 1000000);
                due("reach(" + goal + ")", x.reach(goal), y.reach(goal));
            }
            case 30, 31 -> due("rule()", x.rule(), y.rule());
            case 32 -> due("finger(" + a + ")", x.finger(a), y.finger(a));
            case 33, 34 -> {
                int day = from(0, 999);
                due("diary(" + day + "," + a + "," + b + ")", x.diary(day, a, b), y.diary(day, a, b));
            }
            case 35, 36 -> {
                int days = is ? from(0, 999) : from(0, 20);
                boolean known = y.bar(a, 1) > 400 ? random.nextInt(5) > 0 : is;
                due("paper(" + days + "," + a + "," + known + ")", x.paper(days, a, known), y.paper(days, a, known));
            }
            case 37, 38 -> due("untell", x.untell(is, b) ? 1 : 0, y.untell(is, b) ? 1 : 0);
            case 39, 40 -> {
                int by = random.nextInt(8) == 0 ? from(0, 1000) : random.nextInt(3);
                due("later(" + by + ")", x.later(by), y.later(by));
            }
            case 41 -> due("cuts(" + a + "," + k + ")", x.cuts(a, k), y.cuts(a, k));
            case 42 -> due("diaries", x.diaries(what % 3, k), y.diaries(what % 3, k));
            case 43, 44 -> due("luck", x.luck(what % 3, k), y.luck(what % 3, k));
            case 45, 46 -> due("hang", x.hang(what % 3, k), y.hang(what % 3, k));
            case 47, 48 -> due("laws(" + what % 4 + "," + k + ")", x.laws(what % 4, k), y.laws(what % 4, k));
            case 49 -> {
                int level = from(0, 1000);
                due("hidden(" + level + ")", x.hidden(level), y.hidden(level));
            }
            case 50 -> {
                int level = from(0, 1000);
                due("months(" + a + "," + level + ")", x.months(a, level), y.months(a, level));
            }
            case 51, 52 -> due("back", x.back(a, what % 3), y.back(a, what % 3));
            case 53 -> {
                int w = random.nextInt();
                due("seed(" + w + ")", x.seed(w), y.seed(w));
            }
            case 54 -> due("image", x.image(what - 2), y.image(what - 2));
            case 55 -> due("again", x.again(what - 2), y.again(what - 2));
            case 56, 57 -> {
                int w = from(0, 11);
                due("about(" + w + ")", x.about(w), y.about(w));
            }
            case 58 -> {
                int p = from(0, 3);
                due("part(" + p + ")", x.part(p, what % 3), y.part(p, what % 3));
            }
            default -> all();
        }
    }

    private void put() {
        int doors = from(0, 2);
        int marks = random.nextInt(4) == 0 ? from(0, 2) : 2 - doors;
        if (doors + marks == 2 && y.about(0) > 9 && random.nextInt(4) != 0) {
            return;
        }
        int jolt = random.nextBoolean() ? -1 : bar();
        int odds = from(0, 1000);
        for (int what = -2; what <= 2; what++) {
            due("put(" + doors + "," + marks + "," + jolt + "," + odds + "," + what + ")",
                    x.put(doors, marks, jolt, odds, what), y.put(doors, marks, jolt, odds, what));
        }
    }

    /** Every number that is kept, once. */
    private void all() {
        for (int i = 0; i < y.about(0); i++) {
            for (int what = 0; what < 7; what++) {
                due("bar(" + i + "," + what + ")", x.bar(i, what), y.bar(i, what));
            }
        }
        for (int what = 0; what < 12; what++) {
            due("about(" + what + ")", x.about(what), y.about(what));
        }
    }
}
