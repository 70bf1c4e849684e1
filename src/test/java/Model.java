import java.math.BigInteger;
import java.util.ArrayList;
import java.util.Arrays;
import java.util.HashMap;
import java.util.HashSet;
import java.util.List;
import java.util.Map;
import java.util.Set;
import java.util.TreeMap;
import java.util.TreeSet;
import java.util.function.IntSupplier;

/** The document's words once more, written another way and with the whole library, to compare ByHeart with. */
final class Model {
    private static final Set<String> OWN = new HashSet<>(Arrays.asList(("heap part from to door mark law gain fade "
            + "cross weak save ear plan times slow when do day hold head cuts least and or not").split(" ")));

    private static final class Fault extends RuntimeException {
        final int what;
        final int place;

        Fault(int what, int place) {
            super(null, null, false, false);
            this.what = what;
            this.place = place;
        }
    }

    private static final class Plan {
        String name;
        int from;
        int to;
        int times;
        int slow;
    }

    private static final class Piece {
        List<String> looks = new ArrayList<>();
        List<Integer> heapOf = new ArrayList<>();
        List<String> heaps = new ArrayList<>();
        List<String> parts = new ArrayList<>();
        List<int[]> spans = new ArrayList<>();
        List<Plan> plans = new ArrayList<>();
        Set<Integer> doors = new TreeSet<>();
        Set<Integer> marks = new TreeSet<>();
        Map<String, Integer> law = new HashMap<>();
        boolean lawTold = false;

        Piece() {
            law.put("gain", 100);
            law.put("fade", 10);
            law.put("cross", 20);
            law.put("weak", 500);
            law.put("save", 4);
            law.put("ear", 2);
        }
    }

    private static final class State {
        int[] hold;
        int[] head;
        int[] old;
        int[] learnt;
        TreeSet<Integer> doors;
        TreeSet<Integer> marks;
        int day;
        int w;

        State(Piece p, int w) {
            int n = p.looks.size();
            hold = new int[n];
            head = new int[n];
            old = new int[n];
            learnt = new int[n];
            Arrays.fill(learnt, -1);
            doors = new TreeSet<>(p.doors);
            marks = new TreeSet<>(p.marks);
            this.w = w;
        }

        State(State s) {
            hold = s.hold.clone();
            head = s.head.clone();
            old = s.old.clone();
            learnt = s.learnt.clone();
            doors = new TreeSet<>(s.doors);
            marks = new TreeSet<>(s.marks);
            day = s.day;
            w = s.w;
        }
    }

    private static final class Told {
        int bar;
        int days;
        boolean known;
        int told;
        Integer untold;
    }

    private static final class Rule {
        IntSupplier e;
        int plan;
    }

    // ---- reading ----

    private final class Text {
        final String s;
        final String signs;
        int at = 0;
        int units = 0;

        Text(String s, String signs) {
            this.s = s;
            this.signs = signs;
        }

        int place() {
            int i = at;
            while (i < s.length() && (s.charAt(i) == 32 || s.charAt(i) == 10)) {
                i++;
            }
            return i;
        }

        /** The token here, "" at the end; it is not taken. */
        String look() {
            int i = place();
            if (i == s.length()) {
                return "";
            }
            String rest = s.substring(i);
            java.util.regex.Matcher m = java.util.regex.Pattern.compile("[a-z]+|[0-9]+").matcher(rest);
            if (m.lookingAt()) {
                String run = m.group();
                boolean word = Character.isLetter(run.charAt(0));
                if (run.length() > (word ? 8 : 4)) {
                    throw new Fault(1, i);
                }
                if (!word && rest.length() > run.length() && rest.substring(run.length()).matches("(?s)[a-z].*")) {
                    throw new Fault(1, i);
                }
                return run;
            }
            if (signs.indexOf(rest.charAt(0)) < 0) {
                throw new Fault(1, i);
            }
            return rest.substring(0, 1);
        }

        String take() {
            String t = look();
            at = place() + t.length();
            return t;
        }

        boolean is(String t) {
            return look().equals(t);
        }

        void want(String t) {
            if (!is(t)) {
                throw new Fault(2, place());
            }
            take();
        }

        String lookName() {
            String t = look();
            if (!t.matches("[a-z]+") || OWN.contains(t)) {
                throw new Fault(2, place());
            }
            return t;
        }

        int number(int least, int most) {
            String t = look();
            if (!t.matches("[0-9]+")) {
                throw new Fault(2, place());
            }
            int n = Integer.parseInt(t);
            if (n < least || n > most) {
                throw new Fault(4, place());
            }
            take();
            return n;
        }
    }

    private Piece readPiece(String s) {
        Piece p = new Piece();
        Text t = new Text(s, ";");
        while (!t.is("")) {
            readLine(p, t);
        }
        return p;
    }

    private void readLine(Piece p, Text t) {
        int first = t.place();
        String word = t.take();
        int told = word.equals("heap") ? p.heaps.size() - 8 : word.equals("part") ? p.parts.size() - 4
                : word.equals("plan") ? p.plans.size() - 6 : word.equals("law") && p.lawTold ? 0 : -1;
        if (told >= 0) {
            throw new Fault(2, first);
        }
        switch (word) {
            case "heap" -> {
                String name = t.lookName();
                if (p.heaps.contains(name)) {
                    throw new Fault(3, t.place());
                }
                t.take();
                p.heaps.add(name);
                do {
                    String look = t.lookName();
                    if (p.looks.size() == 24) {
                        throw new Fault(2, t.place());
                    }
                    t.take();
                    p.looks.add(look);
                    p.heapOf.add(p.heaps.size() - 1);
                } while (!t.is(";"));
            }
            case "part" -> {
                String name = t.lookName();
                if (p.parts.contains(name)) {
                    throw new Fault(3, t.place());
                }
                t.take();
                t.want("from");
                int a = p.heaps.indexOf(t.lookName());
                if (a < 0) {
                    throw new Fault(5, t.place());
                }
                t.take();
                t.want("to");
                int b = p.heaps.indexOf(t.lookName());
                if (b < 0 || b < a) {
                    throw new Fault(b < 0 ? 5 : 6, t.place());
                }
                t.take();
                p.parts.add(name);
                p.spans.add(new int[] {p.heapOf.indexOf(a), p.heapOf.lastIndexOf(b)});
            }
            case "door", "mark" -> {
                int at = t.place();
                int bar = t.number(0, p.looks.size() - 1);
                if (!(word.equals("door") ? p.doors : p.marks).add(bar)) {
                    throw new Fault(3, at);
                }
            }
            case "law" -> {
                p.lawTold = true;
                String[] words = {"gain", "fade", "cross", "weak", "save", "ear"};
                int[] most = {500, 200, 100, 1000, 24, 24};
                for (int i = 0; i < 6; i++) {
                    t.want(words[i]);
                    p.law.put(words[i], t.number(i == 0 ? 1 : 0, most[i]));
                }
            }
            case "plan" -> {
                Plan plan = new Plan();
                plan.name = t.lookName();
                for (Plan other : p.plans) {
                    if (other.name.equals(plan.name)) {
                        throw new Fault(3, t.place());
                    }
                }
                t.take();
                t.want("from");
                plan.from = t.number(0, p.looks.size() - 1);
                t.want("to");
                plan.to = t.number(plan.from, p.looks.size() - 1);
                t.want("times");
                plan.times = t.number(0, 20);
                t.want("slow");
                plan.slow = t.number(0, 20);
                p.plans.add(plan);
            }
            default -> throw new Fault(2, first);
        }
        t.want(";");
    }

    private List<Rule> readRules(Text t) {
        List<Rule> all = new ArrayList<>();
        while (!t.is("")) {
            if (all.size() == 6) {
                throw new Fault(2, t.place());
            }
            t.want("when");
            Rule r = new Rule();
            r.e = readE(t, 0);
            t.want("do");
            String name = t.lookName();
            r.plan = -1;
            for (int i = 0; i < piece.plans.size(); i++) {
                if (piece.plans.get(i).name.equals(name)) {
                    r.plan = i;
                }
            }
            if (r.plan < 0) {
                throw new Fault(5, t.place());
            }
            t.take();
            t.want(";");
            all.add(r);
        }
        return all;
    }

    private IntSupplier readE(Text t, int in) {
        List<IntSupplier> all = new ArrayList<>();
        all.add(readBoth(t, in));
        while (t.is("or")) {
            t.take();
            all.add(readBoth(t, in));
        }
        return all.size() == 1 ? all.get(0) : () -> all.stream().anyMatch(x -> x.getAsInt() != 0) ? 1 : 0;
    }

    private IntSupplier readBoth(Text t, int in) {
        List<IntSupplier> all = new ArrayList<>();
        all.add(readOne(t, in));
        while (t.is("and")) {
            t.take();
            all.add(readOne(t, in));
        }
        return all.size() == 1 ? all.get(0) : () -> all.stream().allMatch(x -> x.getAsInt() != 0) ? 1 : 0;
    }

    private IntSupplier readOne(Text t, int in) {
        if (t.is("not")) {
            if (in == 7) {
                throw new Fault(2, t.place());
            }
            t.take();
            IntSupplier x = readOne(t, in + 1);
            return () -> x.getAsInt() == 0 ? 1 : 0;
        }
        IntSupplier a = readSum(t, in);
        if (t.is("<") || t.is(">") || t.is("=")) {
            char c = t.take().charAt(0);
            IntSupplier b = readSum(t, in);
            return () -> {
                int sign = Integer.compare(a.getAsInt(), b.getAsInt());
                return (c == '<' ? sign < 0 : c == '>' ? sign > 0 : sign == 0) ? 1 : 0;
            };
        }
        return a;
    }

    private IntSupplier readSum(Text t, int in) {
        IntSupplier sum = readTerm(t, in);
        while (t.is("+") || t.is("-")) {
            int sign = t.take().equals("+") ? 1 : -1;
            IntSupplier a = sum;
            IntSupplier b = readTerm(t, in);
            sum = () -> a.getAsInt() + sign * b.getAsInt();
        }
        return sum;
    }

    private IntSupplier readTerm(Text t, int in) {
        IntSupplier product = readUnit(t, in);
        while (t.is("*")) {
            t.take();
            IntSupplier a = product;
            IntSupplier b = readUnit(t, in);
            product = () -> a.getAsInt() * b.getAsInt();
        }
        return product;
    }

    private IntSupplier readUnit(Text t, int in) {
        String first = t.look();
        if (++t.units > 40) {
            throw new Fault(2, t.place());
        }
        if (first.matches("[0-9]+")) {
            int n = t.number(0, 9999);
            return () -> n;
        }
        if (first.equals("(")) {
            if (in == 7) {
                throw new Fault(2, t.place());
            }
            t.take();
            IntSupplier e = readE(t, in + 1);
            t.want(")");
            return e;
        }
        if (first.equals("day")) {
            t.take();
            return () -> judged.day;
        }
        if (first.equals("least")) {
            t.take();
            return () -> Arrays.stream(judged.hold).min().orElse(0);
        }
        if (first.equals("hold") || first.equals("head") || first.equals("cuts")) {
            t.take();
            int bar = t.number(0, piece.looks.size() - 1);
            return () -> first.equals("hold") ? judged.hold[bar] : first.equals("head") ? judged.head[bar] : cuts(bar, time);
        }
        throw new Fault(2, t.place());
    }

    // ---- the object ----

    private final StringBuilder tape = new StringBuilder();
    private Piece piece = new Piece();
    private State state = new State(piece, 1);
    private State judged = state;
    private State[] boxes = new State[3];
    private List<Told> diaries = new ArrayList<>();
    private List<Told> papers = new ArrayList<>();
    private List<Rule> rules = new ArrayList<>();
    private int ruleUnits = 0;
    private int[] latest = null;
    private int fault = 0;
    private int place = -1;
    private int time = 0;

    int feed(int... numbers) {
        if (tape.length() > 1480) {
            return -1;
        }
        for (int n : numbers) {
            for (int i = 3; i >= 0; i--) {
                tape.append((char) (n >> 8 * i & 255));
            }
        }
        return tape.length();
    }

    int end(int n) {
        if (n < 0 || n > tape.length()) {
            return -1;
        }
        tape.setLength(n);
        return n;
    }

    int piece() {
        String text = tape.toString();
        tape.setLength(0);
        try {
            piece = readPiece(text);
        } catch (Fault f) {
            fault = f.what;
            place = f.place;
            return -1;
        }
        fault = 0;
        place = -1;
        state = new State(piece, state.w);
        boxes = new State[3];
        diaries.clear();
        papers.clear();
        rules.clear();
        ruleUnits = 0;
        latest = null;
        return piece.looks.size();
    }

    int fault(int what) {
        return what == 0 ? fault : what == 1 ? place : -1;
    }

    private int n() {
        return piece.looks.size();
    }

    private boolean isBar(int bar) {
        return 0 <= bar && bar < n();
    }

    private int law(String word) {
        return piece.law.get(word);
    }

    int bar(int bar, int what) {
        if (!isBar(bar) || what < 0 || what > 6) {
            return -1;
        }
        int[] all = {state.hold[bar], state.head[bar], state.old[bar], state.learnt[bar], piece.heapOf.get(bar),
            state.doors.contains(bar) ? 1 : 0, state.marks.contains(bar) ? 1 : 0};
        return all[what];
    }

    int part(int part, int what) {
        return part < 0 || part >= piece.spans.size() || what < 0 || what > 1 ? -1 : piece.spans.get(part)[what];
    }

    boolean set(int what, int bar, boolean is) {
        if (!isBar(bar) || what != 0 && what != 1) {
            return false;
        }
        Set<Integer> where = what == 0 ? state.doors : state.marks;
        return is ? where.add(bar) : where.remove(bar);
    }

    private int likeness(int a, int b) {
        if (a < 0 || b < 0 || !piece.looks.get(a).equals(piece.looks.get(b))) {
            return 0;
        }
        return Math.min(9, 1 + likeness(a - 1, b - 1));
    }

    int alike(int a, int b) {
        return !isBar(a) || !isBar(b) || a == b ? -1 : likeness(a, b);
    }

    private List<Integer> allForks() {
        List<Integer> all = new ArrayList<>();
        List<String> behind = new ArrayList<>(piece.looks);
        behind.add("");
        for (int pair = 0; pair < n() * n(); pair++) {
            int a = pair / n();
            int b = pair % n();
            if (a < b && likeness(a, b) > 0 && !behind.get(a + 1).equals(behind.get(b + 1))) {
                all.add(100 * a + b);
            }
        }
        return all;
    }

    int fork(int i) {
        List<Integer> all = allForks();
        return i < 0 || i >= all.size() ? -1 : all.get(i);
    }

    int forks() {
        return allForks().size();
    }

    /** At n the stop, at the bar itself what goes on, else what crosses. */
    private int[] behindOf(State s, int i) {
        int[] all = new int[n() + 1];
        int left = 1000;
        all[n()] = (1000 - s.hold[i]) * law("weak") / 1000;
        left -= all[n()];
        for (int j = 0; j < n(); j++) {
            if (j != i && !s.marks.contains(i)) {
                int wanted = s.hold[j] * likeness(i, j) * law("cross") / 1000;
                all[j] = wanted < left ? wanted : left;
                left -= all[j];
            }
        }
        all[i] = left;
        return all;
    }

    int behind(int bar, int to) {
        if (!isBar(bar) || to < -2 || to >= n() || to == bar) {
            return -1;
        }
        return behindOf(state, bar)[to == -1 ? n() : to == -2 ? bar : to];
    }

    private int savedAt(State s, int bar) {
        Integer door = s.doors.higher(bar);
        return door == null || door - bar > law("save") ? -1 : door;
    }

    int saved(int bar) {
        return isBar(bar) ? savedAt(state, bar) : -1;
    }

    private int grow(int it, int g) {
        return it + (1000 - it) * g / 1000;
    }

    private void growHold(State s, int bar, int g) {
        s.hold[bar] = grow(s.hold[bar], g);
        if (s.learnt[bar] < 0 && s.hold[bar] > 0) {
            s.learnt[bar] = s.day;
        }
    }

    int play(int from, int to) {
        if (!isBar(from) || !isBar(to) || to < from) {
            return -1;
        }
        latest = new int[] {3, 0, 0, 0, 0, 0};
        int i = from;
        for (int count = 1; count <= 100; count++) {
            latest[1] = i;
            int[] odds = behindOf(state, i);
            state.w = state.w * 1103515245 + 12345;
            int draw = (state.w >>> 16) % 1000;
            if (draw < odds[n()]) {
                latest[2]++;
                int door = savedAt(state, i);
                if (door < 0) {
                    latest[4]++;
                    latest[0] = 2;
                    return count;
                }
                latest[3]++;
                if (door - i > law("ear")) {
                    latest[4]++;
                }
                i = door;
                continue;
            }
            draw -= odds[n()];
            int taken = i;
            for (int j = 0; j < n() && taken == i; j++) {
                if (j != i) {
                    if (draw < odds[j]) {
                        taken = j;
                    } else {
                        draw -= odds[j];
                    }
                }
            }
            growHold(state, taken, law("gain"));
            if (taken != i) {
                latest[5]++;
            } else if (i == to) {
                latest[0] = 0;
                return count;
            }
            i = taken + 1;
            if (i == n()) {
                latest[0] = 1;
                return count;
            }
        }
        return 100;
    }

    private int slowOf(State s, int from, int to) {
        int shown = 0;
        for (int i = from; i <= to; i++) {
            shown += s.head[i] < 300 ? 1 : 0;
            s.head[i] = grow(s.head[i], law("gain"));
            growHold(s, i, law("gain") / 2);
        }
        return shown;
    }

    int slow(int from, int to) {
        return !isBar(from) || !isBar(to) || to < from ? -1 : slowOf(state, from, to);
    }

    int latest(int what) {
        return latest == null || what < 0 || what > 5 ? -1 : latest[what];
    }

    private void day(State s) {
        for (int[] row : new int[][] {s.hold, s.head, s.old}) {
            for (int i = 0; i < row.length; i++) {
                row[i] -= row[i] * law("fade") / 1000;
            }
        }
        s.day++;
    }

    int days(int n) {
        if (n < 0 || n > 1000 || state.day + n > 100000) {
            return -1;
        }
        for (int i = 0; i < n; i++) {
            day(state);
        }
        return state.day;
    }

    private int[] throughOf(State s, int from, int jolt, int odds) {
        BigInteger[] sums = new BigInteger[5];
        Arrays.fill(sums, BigInteger.ZERO);
        BigInteger thousand = BigInteger.valueOf(1000);
        Map<Integer, BigInteger> at = new TreeMap<>();
        at.put(from, BigInteger.TEN.pow(9));
        int[][] behind = new int[n()][];
        for (int i = 0; i < n(); i++) {
            behind[i] = behindOf(s, i);
        }
        for (int step = 0; step < 120; step++) {
            Map<Integer, BigInteger> then = new TreeMap<>();
            for (int i : at.keySet()) {
                BigInteger parts = at.get(i);
                BigInteger jolted = i == jolt ? parts.multiply(BigInteger.valueOf(odds)).divide(thousand) : BigInteger.ZERO;
                parts = parts.subtract(jolted);
                for (int j = 0; j <= n(); j++) {
                    BigInteger go = parts.multiply(BigInteger.valueOf(behind[i][j])).divide(thousand);
                    int to = j + 1;
                    if (j == n()) {
                        go = go.add(jolted);
                        to = savedAt(s, i);
                        sums[to < 0 ? 1 : 2] = sums[to < 0 ? 1 : 2].add(go);
                        if (to < 0 || to - i > law("ear")) {
                            sums[3] = sums[3].add(go);
                        }
                    } else {
                        sums[4] = j == i ? sums[4] : sums[4].add(go);
                        sums[0] = to == n() ? sums[0].add(go) : sums[0];
                    }
                    if (to >= 0 && to < n() && go.signum() > 0) {
                        then.merge(to, go, BigInteger::add);
                    }
                }
            }
            at = then;
        }
        int[] all = new int[5];
        for (int i = 0; i < 5; i++) {
            all[i] = sums[i].divide(thousand).intValueExact();
        }
        return all;
    }

    private boolean isJolt(int jolt, int odds) {
        return (jolt == -1 || isBar(jolt)) && odds >= 0 && odds <= 1000;
    }

    int through(int from, int jolt, int odds, int what) {
        return !isBar(from) || !isJolt(jolt, odds) || what < 0 || what > 4 ? -1 : throughOf(state, from, jolt, odds)[what];
    }

    int put(int doors, int marks, int jolt, int odds, int what) {
        if (doors < 0 || marks < 0 || doors > 2 || marks > 2 || doors + marks < 1 || doors + marks > 2) {
            return -1;
        }
        if (!isJolt(jolt, odds) || what < -1 || what >= doors + marks) {
            return -1;
        }
        int[] best = null;
        for (int a = 0; a < n(); a++) {
            for (int b = 0; b < (doors + marks == 1 ? 1 : n()); b++) {
                State s = new State(state);
                boolean can = (doors > 0 ? s.doors : s.marks).add(a);
                if (doors + marks == 2) {
                    can &= (marks > 0 ? s.marks : s.doors).add(b) && (doors == 1 || a < b);
                }
                if (can) {
                    int end = throughOf(s, 0, jolt, odds)[0];
                    if (best == null || end > best[2]) {
                        best = new int[] {a, b, end};
                    }
                }
            }
        }
        return best == null ? -1 : best[what < 0 ? 2 : what];
    }

    private void planDay(State s, int plan) {
        Plan p = piece.plans.get(plan);
        for (int i = 0; i < p.times; i++) {
            for (int bar = p.from; bar <= p.to; bar++) {
                growHold(s, bar, law("gain"));
            }
        }
        for (int i = 0; i < p.slow; i++) {
            slowOf(s, p.from, p.to);
        }
        day(s);
    }

    int plans(int n, int what) {
        int many = piece.plans.size();
        if (many == 0 || n() == 0 || n < 1 || n > 4 || what < -1 || what >= n) {
            return -1;
        }
        int rows = (int) Math.pow(many, n);
        int best = -1;
        int bestRow = -1;
        for (int row = 0; row < rows; row++) {
            State s = new State(state);
            for (int d = 0; d < n; d++) {
                planDay(s, row / (int) Math.pow(many, n - 1 - d) % many);
            }
            int end = throughOf(s, 0, -1, 0)[0];
            if (end > best) {
                best = end;
                bestRow = row;
            }
        }
        return what < 0 ? best : bestRow / (int) Math.pow(many, n - 1 - what) % many;
    }

    int plan(int plan) {
        if (plan < 0 || plan >= piece.plans.size() || state.day >= 100000) {
            return -1;
        }
        planDay(state, plan);
        return state.day;
    }

    int rules() {
        if (tape.length() > 600) {
            return -2;
        }
        Text text = new Text(tape.toString(), ";()<>=+-*");
        tape.setLength(0);
        try {
            rules = readRules(text);
        } catch (Fault f) {
            fault = f.what;
            place = f.place;
            return -1;
        }
        fault = 0;
        place = -1;
        ruleUnits = text.units;
        return rules.size();
    }

    private int ruled(State s) {
        judged = s;
        for (Rule r : rules) {
            if (r.e.getAsInt() != 0) {
                return r.plan;
            }
        }
        return -1;
    }

    private boolean dayByRules(State s) {
        int plan = ruled(s);
        if (plan < 0) {
            day(s);
        } else {
            planDay(s, plan);
        }
        return plan >= 0;
    }

    int practise(int n) {
        if (n < 0 || n > 60 || state.day + n > 100000) {
            return -1;
        }
        int done = 0;
        for (int i = 0; i < n; i++) {
            done += dayByRules(state) ? 1 : 0;
        }
        return done;
    }

    int reach(int goal) {
        if (goal < 0 || goal > 1000000 || n() == 0) {
            return -1;
        }
        State s = new State(state);
        for (int days = 0; days <= 60; days++) {
            if (throughOf(s, 0, -1, 0)[0] >= goal) {
                return days;
            }
            dayByRules(s);
        }
        return -1;
    }

    int rule() {
        return ruled(state);
    }

    int finger(int bar) {
        if (!isBar(bar)) {
            return -1;
        }
        state.old[bar] = state.hold[bar];
        state.hold[bar] = 0;
        return state.old[bar];
    }

    private int tell(List<Told> book, int bar, int days, boolean known) {
        if (book.size() == 40) {
            return -1;
        }
        Told t = new Told();
        t.bar = bar;
        t.days = days;
        t.known = known;
        t.told = time;
        book.add(t);
        return book.size() - 1;
    }

    int diary(int day, int from, int to) {
        return day < 0 || day > 999 || !isBar(from) || !isBar(to) || to < from ? -1 : tell(diaries, from, day, false);
    }

    int paper(int days, int bar, boolean known) {
        return days < 0 || days > 999 || !isBar(bar) ? -1 : tell(papers, bar, days, known);
    }

    boolean untell(boolean paper, int which) {
        List<Told> book = paper ? papers : diaries;
        if (which < 0 || which >= book.size() || book.get(which).untold != null) {
            return false;
        }
        book.get(which).untold = time;
        return true;
    }

    int later(int by) {
        if (by < 0 || by > 1000 || time + by > 100000) {
            return -1;
        }
        return time += by;
    }

    private List<Told> known(List<Told> book, int k) {
        List<Told> all = new ArrayList<>();
        for (Told t : book) {
            if (t.told <= k && !(t.untold != null && t.untold <= k)) {
                all.add(t);
            }
        }
        return all;
    }

    int cuts(int bar, int k) {
        return isBar(bar) ? (int) known(diaries, k).stream().filter(t -> t.bar == bar).count() : -1;
    }

    private boolean beginsHeap(int bar) {
        return bar == 0 || !piece.heapOf.get(bar).equals(piece.heapOf.get(bar - 1));
    }

    int diaries(int what, int k) {
        return what == 0 ? known(diaries, k).size()
                : what == 1 ? (int) known(diaries, k).stream().filter(t -> beginsHeap(t.bar)).count() : -1;
    }

    long luck(int part, int k) {
        int many = diaries(0, k);
        if (many == 0 || part != 0 && part != 1) {
            return -1;
        }
        if (many > 12) {
            return -2;
        }
        BigInteger[] ways = new BigInteger[many + 1];
        Arrays.fill(ways, BigInteger.ZERO);
        ways[0] = BigInteger.ONE;
        for (int d = 0; d < many; d++) {
            BigInteger[] more = new BigInteger[many + 1];
            Arrays.fill(more, BigInteger.ZERO);
            for (int bar = 0; bar < n(); bar++) {
                for (int at = 0; at <= d; at++) {
                    int to = at + (beginsHeap(bar) ? 1 : 0);
                    more[to] = more[to].add(ways[at]);
                }
            }
            ways = more;
        }
        BigInteger upper = BigInteger.ZERO;
        for (int at = diaries(1, k); at <= many; at++) {
            upper = upper.add(ways[at]);
        }
        BigInteger lower = BigInteger.valueOf(n()).pow(many);
        return (part == 0 ? upper : lower).divide(upper.gcd(lower)).longValueExact();
    }

    int hang(int part, int k) {
        int[][] counts = new int[2][2];
        for (int i = 1; i < n(); i++) {
            if (state.learnt[i] >= 0 && state.learnt[i - 1] >= 0) {
                int row = state.learnt[i] == state.learnt[i - 1] ? 1 : 0;
                counts[row][0]++;
                counts[row][1] += cuts(i, k) > 0 ? 1 : 0;
            }
        }
        if (counts[0][0] == 0 || counts[1][0] == 0 || part != 0 && part != 1) {
            return -1000000;
        }
        BigInteger upper = BigInteger.valueOf(counts[0][1] * counts[1][0] - counts[1][1] * counts[0][0]);
        BigInteger lower = BigInteger.valueOf(counts[0][0] * counts[1][0]);
        return (part == 0 ? upper : lower).divide(upper.gcd(lower)).intValueExact();
    }

    int laws(int what, int k) {
        TreeSet<Integer> fades = new TreeSet<>();
        for (int f = 0; f <= 200; f++) {
            boolean all = true;
            for (Told t : known(papers, k)) {
                int head = state.head[t.bar];
                for (int d = 0; d < t.days; d++) {
                    head -= head * f / 1000;
                }
                all &= head >= 300 == t.known;
            }
            if (all) {
                fades.add(f);
            }
        }
        return what == 0 ? fades.size() : fades.isEmpty() ? -1 : what == 1 ? fades.first() : what == 2 ? fades.last() : -1;
    }

    int hidden(int level) {
        if (level < 0 || level > 1000) {
            return -1;
        }
        int bits = 0;
        for (int i = 0; i < n(); i++) {
            bits += state.hold[i] >= level && state.head[i] < level ? 1 << i : 0;
        }
        return bits;
    }

    int months(int bar, int level) {
        if (!isBar(bar) || level < 0 || level > 1000) {
            return -1;
        }
        int hold = state.hold[bar];
        int days = 0;
        while (hold >= level) {
            hold -= hold * law("fade") / 1000;
            days++;
            if (days > 5000) {
                return -1;
            }
        }
        return days;
    }

    int back(int bar, int part) {
        if (!isBar(bar) || part != 0 && part != 1 || state.old[bar] + state.hold[bar] == 0) {
            return -1;
        }
        int upper = state.old[bar];
        int lower = upper + state.hold[bar];
        return (part == 0 ? upper : lower) / BigInteger.valueOf(upper).gcd(BigInteger.valueOf(lower)).intValue();
    }

    int seed(int w) {
        int was = state.w;
        state.w = w;
        return was;
    }

    int image(int box) {
        if (box < 0 || box > 2) {
            return -1;
        }
        boxes[box] = new State(state);
        return state.day;
    }

    int again(int box) {
        if (box < 0 || box > 2 || boxes[box] == null) {
            return -1;
        }
        state = new State(boxes[box]);
        return state.day;
    }

    int about(int what) {
        int[] all = {n(), piece.heaps.size(), piece.parts.size(), piece.plans.size(), diaries.size(), papers.size(),
            time, state.day, tape.length(), state.w, rules.size(), ruleUnits};
        return what < 0 || what > 11 ? -1 : all[what];
    }
}
