import java.util.ArrayList;
import java.util.List;
import java.util.function.Supplier;
import java.util.function.ToLongFunction;

/**
 * Two objects in one state, one of which is asked something: where the call was refused, or asks only, no call behind
 * it may tell the two apart. What is told of each is told by calls that change it, too: boxes, rules and draws show so.
 */
final class Twins {
    static final String PIECE = "heap a x y;heap b x z;part p from a to b;door 2;mark 1;"
            + "law gain 400 fade 100 cross 100 weak 300 save 3 ear 1;"
            + "plan q from 0 to 3 times 1 slow 1;plan r from 1 to 2 times 0 slow 2;";
    static final String RULES = "when cuts 2 = 1 and day < 9 do r;when least < 500 do q;";
    private static final int[] TIMES = {-1, 0, 3, 5, 100000};

    private final List<String> calls = new ArrayList<>();
    private final List<Long> answers = new ArrayList<>();

    private Twins() {
    }

    /** Four bars, something of everything that can be kept, 20 bytes on the tape, box 1 empty. */
    static ByHeart rich() {
        ByHeart x = Check.with(PIECE);
        Check.tellRules(x, RULES);
        x.seed(12);
        x.slow(0, 3);
        x.days(2);
        x.image(0);
        x.play(0, 3);
        x.finger(1);
        x.slow(1, 2);
        x.later(3);
        x.diary(1, 0, 1);
        x.paper(1, 0, true);
        x.later(2);
        x.diary(2, 2, 3);
        x.untell(false, 0);
        x.paper(2, 1, false);
        x.untell(true, 0);
        x.set(0, 3, true);
        x.image(2);
        x.plan(0);
        x.set(1, 2, true);
        x.play(0, 3);
        x.feed(1751474544, 543236216, 544809082, 996697441, 1881170464);
        return x;
    }

    /** As much of everything as there can be: bars, heaps, parts, plans, doors, marks, diaries, papers, rules, units, bytes. */
    static ByHeart full() {
        StringBuilder s = new StringBuilder();
        for (int i = 0; i < 8; i++) {
            s.append("heap ").append((char) ('a' + i)).append(i % 2 == 0 ? " x y z;" : " x y w;");
        }
        for (int i = 0; i < 24; i++) {
            s.append("door ").append(i).append(";mark ").append(i).append(";");
        }
        for (int i = 0; i < 4; i++) {
            s.append("part ").append((char) ('a' + i)).append(" from a to h;");
        }
        for (int i = 0; i < 6; i++) {
            s.append("plan ").append((char) ('p' + i)).append(" from ").append(4 * i).append(" to 23 times 1 slow 1;");
        }
        ByHeart x = Check.with(s.toString());
        Check.tellRules(x, "when day * 3 = 9 + hold 23 - 1 + 1 * 2 do u;".repeat(5) + "when 1 < 2 + 3 + 4 + 5 do p;");
        x.slow(0, 11);
        x.days(1);
        x.slow(8, 20);
        for (int i = 0; i < 40; i++) {
            x.diary(i, i % 24, 23);
            x.paper(i, i % 24, i % 3 == 0);
            x.later(1);
            if (i % 4 == 0) {
                x.untell(false, i);
                x.untell(true, i / 2);
            }
        }
        for (int box = 0; box < 3; box++) {
            x.image(box);
            x.finger(3 * box + 9);
            x.play(0, 23);
        }
        for (int i = 0; i < 75; i++) {
            x.feed(i, i, i, i, i);
        }
        return x;
    }

    /** The same as the rich one, on the last day there is. */
    static ByHeart lastDay() {
        ByHeart x = rich();
        for (int i = 0; i < 99; i++) {
            x.days(1000);
        }
        x.days(100000 - x.about(7));
        return x;
    }

    /** The same as the rich one, at the last time there is. */
    static ByHeart lastTime() {
        ByHeart x = rich();
        for (int i = 0; i < 99; i++) {
            x.later(1000);
        }
        x.later(100000 - x.about(6));
        return x;
    }

    /** The call answers so, and leaves no trace. */
    static void leaves(Check check, String call, Supplier<ByHeart> state, ToLongFunction<ByHeart> asked, long want) {
        ByHeart x = state.get();
        check.due(call, asked.applyAsLong(x), want);
        compare(check, call, x, state.get(), true);
    }

    /** The call only asks: it answers the same twice, and leaves no trace. */
    static void asksOnly(Check check, String call, Supplier<ByHeart> state, ToLongFunction<ByHeart> asked) {
        ByHeart x = state.get();
        leaves(check, call, state, asked, asked.applyAsLong(x));
        long once = asked.applyAsLong(x);
        check.due(call + " once more", asked.applyAsLong(x), once);
    }

    /** What is told by both must be one; a text that was read leaves its fault, so that may be left out. */
    static void compare(Check check, String call, ByHeart x, ByHeart untouched, boolean withFault) {
        Twins a = new Twins();
        Twins b = new Twins();
        a.askAll(x, withFault);
        b.askAll(untouched, withFault);
        check.due(call + ": as many answers", a.answers.size(), b.answers.size());
        for (int i = 0; i < b.answers.size(); i++) {
            check.due(call + " leaves " + b.calls.get(i), a.answers.get(i), b.answers.get(i));
        }
    }

    private void told(String call, long answer) {
        calls.add(call);
        answers.add(answer);
    }

    private void askAll(ByHeart x, boolean withFault) {
        for (int what = 0; what < 2 && withFault; what++) {
            told("fault(" + what + ")", x.fault(what));
        }
        askState(x, "");
        for (int i = 0; i < x.about(2); i++) {
            told("part(" + i + ", 0)", x.part(i, 0));
            told("part(" + i + ", 1)", x.part(i, 1));
        }
        told("forks()", x.forks());
        told("rule()", x.rule());
        for (int k : TIMES) {
            told("diaries(1, " + k + ")", x.diaries(1, k));
            told("luck(0, " + k + ")", x.luck(0, k));
            told("laws(1, " + k + ")", x.laws(1, k));
        }
        for (int box = 0; box < 3; box++) {
            told("again(" + box + ")", x.again(box));
            askState(x, " behind again(" + box + ")");
        }
        told("practise(3)", x.practise(3));
        told("play(0, last)", x.play(0, x.about(0) - 1));
        askState(x, " behind a play");
    }

    private void askState(ByHeart x, String when) {
        for (int what = 0; what < 12; what++) {
            told("about(" + what + ")" + when, x.about(what));
        }
        for (int bar = 0; bar < x.about(0); bar++) {
            for (int what = 0; what < 7; what++) {
                told("bar(" + bar + ", " + what + ")" + when, x.bar(bar, what));
            }
        }
        for (int what = 0; what < 6; what++) {
            told("latest(" + what + ")" + when, x.latest(what));
        }
    }
}
