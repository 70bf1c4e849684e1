import java.util.function.Supplier;
import java.util.function.ToLongFunction;

/**
 * What each call refuses, at the first value on each side that it does, in states of every kind: the answer that is due,
 * and that all stays as it was. Behind them the calls that only ask: they leave no trace either.
 */
public final class RefusedTest {
    private static final Check CHECK = new Check();
    private static final int MIN = Integer.MIN_VALUE;
    private static final int MAX = Integer.MAX_VALUE;
    private static final int[] OUTSIDE_BOXES = {-1, 3, MIN, MAX};

    /** A call with one argument left open. */
    private interface Call {
        long on(ByHeart x, int n);
    }

    private final String kind;
    private final Supplier<ByHeart> state;
    private final int bars;
    private final int parts;
    private final int plans;
    private final int told;

    private RefusedTest(String kind, Supplier<ByHeart> state, int bars, int parts, int plans, int told) {
        this.kind = kind;
        this.state = state;
        this.bars = bars;
        this.parts = parts;
        this.plans = plans;
        this.told = told;
    }

    public static void main(String[] args) {
        new RefusedTest("new", ByHeart::new, 0, 0, 0, 0).refusals();
        new RefusedTest("rich", Twins::rich, 4, 1, 2, 2).refusals();
        new RefusedTest("full", Twins::full, 24, 4, 6, 40).refusals();
        fullAlone();
        richAlone();
        lastDay();
        lastTime();
        texts();
        asking();
        CHECK.finish();
    }

    private void none(String call, Call c, long want, int... values) {
        for (int n : values) {
            Twins.leaves(CHECK, kind + ": " + call.replace("#", "" + n), state, x -> c.on(x, n), want);
        }
    }

    private int[] outside(int size) {
        return new int[] {-1, size, MIN, MAX};
    }

    private void refusals() {
        int[] noBars = outside(bars);
        int last = bars - 1;
        none("3: end(#)", (x, n) -> x.end(n), -1, -1, state.get().about(8) + 1, MIN, MAX);
        none("5: fault(#)", (x, n) -> x.fault(n), -1, -1, 2, MIN, MAX);
        none("6: bar(#, 0)", (x, n) -> x.bar(n, 0), -1, noBars);
        none("6: bar(last, #)", (x, n) -> x.bar(last, n), -1, outside(7));
        none("7: part(#, 0)", (x, n) -> x.part(n, 0), -1, outside(parts));
        none("7: part(0, #)", (x, n) -> x.part(0, n), -1, outside(2));
        none("8: set(0, #, true)", (x, n) -> x.set(0, n, true) ? 1 : 0, 0, noBars);
        none("8: set(1, #, false)", (x, n) -> x.set(1, n, false) ? 1 : 0, 0, noBars);
        none("8: set(#, 0, true)", (x, n) -> x.set(n, 0, true) ? 1 : 0, 0, outside(2));
        none("8: set(#, last, false)", (x, n) -> x.set(n, last, false) ? 1 : 0, 0, outside(2));
        none("9: alike(#, 0)", (x, n) -> x.alike(n, 0), -1, noBars);
        none("9: alike(0, #)", (x, n) -> x.alike(0, n), -1, noBars);
        none("9: alike(#, #)", (x, n) -> x.alike(n, n), -1, 0, last);
        none("10: fork(#)", (x, n) -> x.fork(n), -1, outside(state.get().forks()));
        none("12: behind(#, -1)", (x, n) -> x.behind(n, -1), -1, noBars);
        none("12: behind(0, #)", (x, n) -> x.behind(0, n), -1, -3, bars, MIN, MAX);
        none("12: behind(#, #)", (x, n) -> x.behind(n, n), -1, 0, last);
        none("13: saved(#)", (x, n) -> x.saved(n), -1, noBars);
        spans();
        odds();
        tellings();
        boxes();
    }

    private void spans() {
        int last = bars - 1;
        none("14: play(#, last)", (x, n) -> x.play(n, last), -1, outside(bars));
        none("14: play(0, #)", (x, n) -> x.play(0, n), -1, outside(bars));
        none("15: slow(#, last)", (x, n) -> x.slow(n, last), -1, outside(bars));
        none("15: slow(0, #)", (x, n) -> x.slow(0, n), -1, outside(bars));
        if (bars > 1) {
            none("14: play(last, #)", (x, n) -> x.play(last, n), -1, last - 1, 0);
            none("15: slow(last, #)", (x, n) -> x.slow(last, n), -1, last - 1, 0);
            none("27: diary(0, last, #)", (x, n) -> x.diary(0, last, n), -1, last - 1, 0);
        }
        none("16: latest(#)", (x, n) -> x.latest(n), -1, outside(6));
        none("17: days(#)", (x, n) -> x.days(n), -1, outside(1001));
        none("21: plan(#)", (x, n) -> x.plan(n), -1, outside(plans));
        none("23: practise(#)", (x, n) -> x.practise(n), -1, outside(61));
        none("26: finger(#)", (x, n) -> x.finger(n), -1, outside(bars));
    }

    private void odds() {
        none("18: through(#, -1, 0, 0)", (x, n) -> x.through(n, -1, 0, 0), -1, outside(bars));
        none("18: through(0, #, 0, 0)", (x, n) -> x.through(0, n, 0, 0), -1, -2, bars, MIN, MAX);
        none("18: through(0, -1, #, 0)", (x, n) -> x.through(0, -1, n, 0), -1, outside(1001));
        none("18: through(0, 0, 0, #)", (x, n) -> x.through(0, 0, 0, n), -1, outside(5));
        none("19: put(#, 0, -1, 0, -1)", (x, n) -> x.put(n, 0, -1, 0, -1), -1, -1, 0, 3, MIN, MAX);
        none("19: put(0, #, -1, 0, -1)", (x, n) -> x.put(0, n, -1, 0, -1), -1, -1, 0, 3, MIN, MAX);
        none("19: put(2, #, -1, 0, -1)", (x, n) -> x.put(2, n, -1, 0, -1), -1, -1, 1, 2, MAX);
        none("19: put(1, 1, #, 0, -1)", (x, n) -> x.put(1, 1, n, 0, -1), -1, -2, bars, MIN, MAX);
        none("19: put(1, 1, -1, #, -1)", (x, n) -> x.put(1, 1, -1, n, -1), -1, outside(1001));
        none("19: put(1, 1, -1, 0, #)", (x, n) -> x.put(1, 1, -1, 0, n), -1, -2, 2, MIN, MAX);
        none("19: put(0, 1, -1, 0, #)", (x, n) -> x.put(0, 1, -1, 0, n), -1, -2, 1, MIN, MAX);
        none("20: plans(#, -1)", (x, n) -> x.plans(n, -1), -1, 0, -1, 5, MIN, MAX);
        none("20: plans(1, #)", (x, n) -> x.plans(1, n), -1, -2, 1, MIN, MAX);
        none("20: plans(2, #)", (x, n) -> x.plans(2, n), -1, -2, 2, MIN, MAX);
        none("24: reach(#)", (x, n) -> x.reach(n), -1, outside(1000001));
    }

    private void tellings() {
        none("27: diary(#, 0, 0)", (x, n) -> x.diary(n, 0, 0), -1, outside(1000));
        none("27: diary(0, #, last)", (x, n) -> x.diary(0, n, bars - 1), -1, outside(bars));
        none("27: diary(0, 0, #)", (x, n) -> x.diary(0, 0, n), -1, outside(bars));
        none("28: paper(#, 0, true)", (x, n) -> x.paper(n, 0, true), -1, outside(1000));
        none("28: paper(0, #, false)", (x, n) -> x.paper(0, n, false), -1, outside(bars));
        none("29: untell(false, #)", (x, n) -> x.untell(false, n) ? 1 : 0, 0, outside(told));
        none("29: untell(true, #)", (x, n) -> x.untell(true, n) ? 1 : 0, 0, outside(told));
        none("30: later(#)", (x, n) -> x.later(n), -1, outside(1001));
        none("31: cuts(#, 0)", (x, n) -> x.cuts(n, 0), -1, outside(bars));
        none("32: diaries(#, 0)", (x, n) -> x.diaries(n, 0), -1, outside(2));
        none("33: luck(#, 0)", (x, n) -> x.luck(n, 0), -1, outside(2));
        none("34: hang(#, 0)", (x, n) -> x.hang(n, 0), -1000000, outside(2));
        none("35: laws(#, 0)", (x, n) -> x.laws(n, 0), -1, outside(3));
        none("36: hidden(#)", (x, n) -> x.hidden(n), -1, outside(1001));
        none("37: months(#, 500)", (x, n) -> x.months(n, 500), -1, outside(bars));
        none("37: months(0, #)", (x, n) -> x.months(0, n), -1, outside(1001));
        none("38: back(#, 0)", (x, n) -> x.back(n, 0), -1, outside(bars));
        none("38: back(0, #)", (x, n) -> x.back(0, n), -1, outside(2));
    }

    private void boxes() {
        none("40: image(#)", (x, n) -> x.image(n), -1, OUTSIDE_BOXES);
        none("41: again(#)", (x, n) -> x.again(n), -1, OUTSIDE_BOXES);
        none("42: about(#)", (x, n) -> x.about(n), -1, outside(12));
    }

    /** Where there is as much as there can be, no more is taken. */
    private static void fullAlone() {
        int[] about = {24, 8, 4, 6, 40, 40, 40, 1, 1500};
        for (int i = 0; i < about.length; i++) {
            CHECK.due("the full one: about(" + i + ")", Twins.full().about(i), about[i]);
        }
        CHECK.due("the full one: rules", Twins.full().about(10), 6);
        CHECK.due("the full one: units", Twins.full().about(11), 40);
        RefusedTest full = new RefusedTest("full", Twins::full, 24, 4, 6, 40);
        full.none("2: feed(#, ..)", (x, n) -> x.feed(n, n, n, n, n), -1, 0, -1);
        full.none("22: rules() of 1,500 bytes", (x, n) -> x.rules(), -2, 0);
        full.none("27: diary(0, #, 23)", (x, n) -> x.diary(0, n, 23), -1, 0, 23);
        full.none("28: paper(0, #, true)", (x, n) -> x.paper(0, n, true), -1, 0, 23);
        full.none("29: untold already: untell(false, #)", (x, n) -> x.untell(false, n) ? 1 : 0, 0, 0, 4, 36);
        full.none("29: untold already: untell(true, #)", (x, n) -> x.untell(true, n) ? 1 : 0, 0, 0, 2, 18);
        full.none("8: a door at each: set(0, #, true)", (x, n) -> x.set(0, n, true) ? 1 : 0, 0, 0, 23);
        full.none("8: a mark at each: set(1, #, true)", (x, n) -> x.set(1, n, true) ? 1 : 0, 0, 0, 23);
        full.none("19: put(#, ..) where all have a door", (x, n) -> x.put(n, 0, -1, 0, -1), -1, 1, 2);
        full.none("19: put(.., #) where all have a mark", (x, n) -> x.put(0, n, -1, 0, 0), -1, 1, 2);
        full.none("19: one of each where all have", (x, n) -> x.put(1, 1, n, 0, -1), -1, -1);
        // Of 40 diaries, 30 count at the time.
        full.none("33: spent: luck(#, ..)", (x, n) -> x.luck(n, 40), -2, 0, 1);
    }

    private static void richAlone() {
        RefusedTest rich = new RefusedTest("rich", Twins::rich, 4, 1, 2, 2);
        rich.none("8: so already: set(0, #, true)", (x, n) -> x.set(0, n, true) ? 1 : 0, 0, 2, 3);
        rich.none("8: so already: set(0, #, false)", (x, n) -> x.set(0, n, false) ? 1 : 0, 0, 0, 1);
        rich.none("8: so already: set(1, #, true)", (x, n) -> x.set(1, n, true) ? 1 : 0, 0, 1, 2);
        rich.none("8: so already: set(1, #, false)", (x, n) -> x.set(1, n, false) ? 1 : 0, 0, 0, 3);
        rich.none("13: saved(#) behind the last door", (x, n) -> x.saved(n), -1, 3);
        rich.none("29: so already: untell(false, #)", (x, n) -> x.untell(false, n) ? 1 : 0, 0, 0);
        rich.none("29: so already: untell(true, #)", (x, n) -> x.untell(true, n) ? 1 : 0, 0, 0);
        rich.none("33: none as known at #", (x, n) -> x.luck(0, n), -1, 2, -1, MIN);
        rich.none("37: months(#, 0), for ever", (x, n) -> x.months(n, 0), -1, 0, 3);
        rich.none("41: nothing kept: again(#)", (x, n) -> x.again(n), -1, 1);
        // One bar less than two is without a door, once another is set.
        Supplier<ByHeart> threeDoors = () -> {
            ByHeart x = Twins.rich();
            x.set(0, 0, true);
            return x;
        };
        RefusedTest doors = new RefusedTest("three doors", threeDoors, 4, 1, 2, 2);
        doors.none("19: put(2, 0, -1, 0, #)", (x, n) -> x.put(2, 0, -1, 0, n), -1, -1, 0, 1);
        Supplier<ByHeart> full = () -> {
            ByHeart x = Twins.rich();
            for (int i = 0; i < 73; i++) {
                x.feed(0, 0, 0, 0, 0);
            }
            x.end(1481);
            return x;
        };
        RefusedTest tape = new RefusedTest("1,480 bytes and one, ended", () -> ended(full.get(), 1480), 4, 1, 2, 2);
        tape.none("3: end(#)", (x, n) -> x.end(n), -1, 1481, 1500);
        Supplier<ByHeart> nineteen = () -> {
            ByHeart x = ended(full.get(), 1480);
            x.feed(1, 2, 3, 4, 5);
            return ended(x, 1481);
        };
        new RefusedTest("1,481 bytes", nineteen, 4, 1, 2, 2).none("2: feed(#, ..)", (x, n) -> x.feed(n, 0, 0, 0, 0), -1, 0, -1);
    }

    private static ByHeart ended(ByHeart x, int n) {
        x.end(n);
        return x;
    }

    private static void lastDay() {
        RefusedTest last = new RefusedTest("the last day", Twins::lastDay, 4, 1, 2, 2);
        last.none("17: days(#)", (x, n) -> x.days(n), -1, 1, 2, 1000);
        last.none("21: plan(#)", (x, n) -> x.plan(n), -1, 0, 1);
        last.none("23: practise(#)", (x, n) -> x.practise(n), -1, 1, 60);
        last.none("17: days(#) is none", (x, n) -> x.days(n), 100000, 0);
        last.none("23: practise(#) is none", (x, n) -> x.practise(n), 0, 0);
        Supplier<ByHeart> oneLeft = () -> {
            ByHeart x = Twins.rich();
            while (x.about(7) < 99999) {
                x.days(Math.min(1000, 99999 - x.about(7)));
            }
            return x;
        };
        RefusedTest one = new RefusedTest("a day left", oneLeft, 4, 1, 2, 2);
        one.none("17: days(#)", (x, n) -> x.days(n), -1, 2, 1000);
        one.none("23: practise(#)", (x, n) -> x.practise(n), -1, 2, 60);
        CHECK.due("17: days(1) with a day left", oneLeft.get().days(1), 100000);
        CHECK.due("21: plan(1) with a day left", oneLeft.get().plan(1), 100000);
        ByHeart x = oneLeft.get();
        CHECK.due("23: practise(1) with a day left", x.practise(1) >= 0, true);
        CHECK.due("23: the last day", x.about(7), 100000);
    }

    private static void lastTime() {
        RefusedTest last = new RefusedTest("the last time", Twins::lastTime, 4, 1, 2, 2);
        last.none("30: later(#)", (x, n) -> x.later(n), -1, 1, 2, 1000);
        last.none("30: later(#) is none", (x, n) -> x.later(n), 100000, 0);
        Supplier<ByHeart> oneLeft = () -> {
            ByHeart x = Twins.rich();
            while (x.about(6) < 99999) {
                x.later(Math.min(1000, 99999 - x.about(6)));
            }
            return x;
        };
        new RefusedTest("a time left", oneLeft, 4, 1, 2, 2).none("30: later(#)", (x, n) -> x.later(n), -1, 2, 1000);
        CHECK.due("30: later(1) with a time left", oneLeft.get().later(1), 100000);
    }

    /** Behind a fault all stays but the tape, which is empty, and what fault() tells. */
    private static void texts() {
        String[] pieces = {"?", "x", "heap", "heap a", "heap a x", "heap a x;door 1;", "heap a x;heap a y;", "heap a x;door 0;door 0;",
            "heap a x;part p from b to a;", "heap a x;heap b y;part p from b to a;", "heap a x y z;door 0;mark 1;law gain 0",
            "heap a" + " x".repeat(25) + ";", "heap a x;plan p from 0 to 0 times 21 slow 0;"};
        String[] rules = {"?", "x", "when", "when 1", "when 1 do s;", "when hold 4 do q;", "when 1 do q;".repeat(7),
            "when 1" + "+1".repeat(40) + " do q;", "when " + "(".repeat(8) + "1" + ")".repeat(8) + " do q;", "when 1 do r;when 0 do r"};
        for (int i = 0; i < pieces.length + rules.length; i++) {
            boolean piece = i < pieces.length;
            String text = piece ? pieces[i] : rules[i - pieces.length];
            ByHeart x = Twins.rich();
            Check.type(x, text);
            CHECK.due((piece ? "4: piece() of " : "22: rules() of ") + text, piece ? x.piece() : x.rules(), -1);
            Twins.compare(CHECK, (piece ? "4: piece() of " : "22: rules() of ") + text, x, ended(Twins.rich(), 0), false);
        }
        Supplier<ByHeart> tooMuch = () -> {
            ByHeart x = Twins.rich();
            Check.type(x, "when 1 do ?");
            x.rules();
            Check.type(x, "when 1 do q;" + " ".repeat(589));
            return x;
        };
        new RefusedTest("601 bytes", tooMuch, 4, 1, 2, 2).none("22: rules()", (x, n) -> x.rules(), -2, 0);
    }

    private static void asks(String call, ToLongFunction<ByHeart> asked) {
        Twins.asksOnly(CHECK, "rich asks only: " + call, Twins::rich, asked);
        Twins.asksOnly(CHECK, "full asks only: " + call, Twins::full, asked);
    }

    private static void asking() {
        asks("fault(0)", x -> x.fault(0));
        asks("bar(1, 0)", x -> x.bar(1, 0));
        asks("part(0, 1)", x -> x.part(0, 1));
        asks("alike(0, 2)", x -> x.alike(0, 2));
        asks("fork(0)", x -> x.fork(0));
        asks("forks()", x -> x.forks());
        asks("behind(0, 2)", x -> x.behind(0, 2));
        asks("behind(2, -2)", x -> x.behind(2, -2));
        asks("saved(0)", x -> x.saved(0));
        asks("latest(1)", x -> x.latest(1));
        asks("through(0, 1, 500, 0)", x -> x.through(0, 1, 500, 0));
        asks("put(1, 0, 1, 500, 0)", x -> x.put(1, 0, 1, 500, 0));
        asks("put(0, 2, -1, 0, -1)", x -> x.put(0, 2, -1, 0, -1));
        asks("plans(2, -1)", x -> x.plans(2, -1));
        asks("reach(1000000)", x -> x.reach(1000000));
        asks("reach(0)", x -> x.reach(0));
        asks("rule()", x -> x.rule());
        asks("cuts(2, 5)", x -> x.cuts(2, 5));
        asks("diaries(0, 5)", x -> x.diaries(0, 5));
        asks("diaries(1, 5)", x -> x.diaries(1, 5));
        asks("luck(1, 5)", x -> x.luck(1, 5));
        asks("hang(0, 5)", x -> x.hang(0, 5));
        asks("laws(0, 5)", x -> x.laws(0, 5));
        asks("hidden(100)", x -> x.hidden(100));
        asks("months(0, 100)", x -> x.months(0, 100));
        asks("back(1, 1)", x -> x.back(1, 1));
        asks("about(7)", x -> x.about(7));
    }
}
