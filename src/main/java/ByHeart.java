import java.util.Arrays;

/**
 * A piece learnt by heart: what the hands hold, what the head knows, how plays of it come through,
 * what diaries and papers tell of it. The document's numbered promises say what each call answers.
 */
public final class ByHeart {
    public static final int NONE = -1;

    private static final int MOST_BYTES = 1500;
    private static final int MOST_RULE_BYTES = 600;
    private static final int FED_BYTES = 20;
    private static final int MOST_BARS = 24;
    private static final int MOST_HEAPS = 8;
    private static final int MOST_PARTS = 4;
    private static final int MOST_PLANS = 6;
    private static final int MOST_TIMES = 20;
    private static final int MOST_RULES = 6;
    private static final int MOST_UNITS = 40;
    private static final int MOST_WITHIN = 6;
    private static final int MOST_TOLD = 40;
    private static final int MOST_TOLD_DAY = 999;
    private static final int MOST_ALIKE = 9;
    private static final int MOST_PLAYED = 100;
    private static final int MOST_PUT = 2;
    private static final int MOST_PLAN_DAYS = 4;
    private static final int MOST_RULE_DAYS = 60;
    private static final int MOST_MONTHS = 5000;
    private static final int MOST_LUCK = 12;
    private static final int MOST_FADE = 200;
    private static final int MOST_AT_ONCE = 1000;
    private static final int LATEST_DAY = 100000;
    private static final int BOXES = 3;

    private static final int WHOLE = 1000;
    private static final int MILLION = 1000000;
    private static final int KNOWN = 300;
    private static final int TOO_MUCH = -2;
    private static final int NO_FRACTION = -1000000;

    private static final int NO_TOKEN = 1;
    private static final int MISPLACED = 2;
    private static final int TOLD_ALREADY = 3;
    private static final int BAD_NUMBER = 4;
    private static final int UNKNOWN_NAME = 5;
    private static final int WRONG_ORDER = 6;

    /** The words that stand for themselves, each in WORD_WIDTH signs; a word's number is its place here. */
    private static final String WORDS =
            "heap part from to   door mark law  gain fade crossweak save ear  plan timesslow when do   day  hold head cuts leastand  or   not  ";
    private static final int WORD_WIDTH = 5;
    private static final int WORD_COUNT = 26;
    private static final int W_HEAP = 0;
    private static final int W_PART = 1;
    private static final int W_FROM = 2;
    private static final int W_TO = 3;
    private static final int W_DOOR = 4;
    private static final int W_MARK = 5;
    private static final int W_LAW = 6;
    private static final int W_GAIN = 7;
    private static final int W_PLAN = 13;
    private static final int W_TIMES = 14;
    private static final int W_SLOW = 15;
    private static final int W_WHEN = 16;
    private static final int W_DO = 17;
    private static final int W_DAY = 18;
    private static final int W_HOLD = 19;
    private static final int W_HEAD = 20;
    private static final int W_CUTS = 21;
    private static final int W_LEAST = 22;
    private static final int W_AND = 23;
    private static final int W_OR = 24;
    private static final int W_NOT = 25;

    /** The numbers of a law, in the order in which its words stand among WORDS from W_GAIN on. */
    private static final int GAIN = 0;
    private static final int FADE = 1;
    private static final int CROSS = 2;
    private static final int WEAK = 3;
    private static final int SAVE = 4;
    private static final int EAR = 5;
    private static final int LAW_SIZE = 6;
    private static final int[] LAW_LEAST = {1, 0, 0, 0, 0, 0};
    private static final int[] LAW_MOST = {500, 200, 100, 1000, 24, 24};
    private static final int[] LAW_UNTOLD = {100, 10, 20, 500, 4, 2};

    private final Tape tape = new Tape();
    private final Score score = new Score();
    private final PieceReader pieceReader = new PieceReader(tape);
    private final Mind mind = new Mind();
    private final Mind[] boxes = new Mind[BOXES];
    private final Flow flow = new Flow(score);
    private final Player player = new Player(score, mind, flow);
    private final Search search = new Search(score, flow);
    private final Ledger diaryBook = new Ledger();
    private final Ledger paperBook = new Ledger();
    private final Rules ruleBook = new Rules();
    private final RulesReader rulesReader = new RulesReader(tape, score);
    private final int[] cutsNow = new int[MOST_BARS];
    private int time = 0;

    public ByHeart() {
        for (int i = 0; i < BOXES; i++) {
            boxes[i] = new Mind();
        }
    }

    public int feed(int a, int b, int c, int d, int e) {
        if (tape.length + FED_BYTES > MOST_BYTES) {
            return NONE;
        }
        tape.lay(a);
        tape.lay(b);
        tape.lay(c);
        tape.lay(d);
        tape.lay(e);
        return tape.length;
    }

    public int end(int n) {
        if (n < 0 || n > tape.length) {
            return NONE;
        }
        tape.length = n;
        return n;
    }

    public int piece() {
        boolean fine = pieceReader.readAll();
        tape.length = 0;
        if (!fine) {
            return NONE;
        }
        score.copyFrom(pieceReader.score);
        mind.begin(score);
        flow.begin();
        player.told = false;
        diaryBook.size = 0;
        paperBook.size = 0;
        ruleBook.empty();
        for (int i = 0; i < BOXES; i++) {
            boxes[i].kept = false;
        }
        return score.bars;
    }

    public int fault(int what) {
        if (what == 0) {
            return tape.fault;
        }
        return what == 1 ? tape.place : NONE;
    }

    public int bar(int bar, int what) {
        if (!score.hasBar(bar)) {
            return NONE;
        }
        switch (what) {
            case 0:
                return mind.hold[bar];
            case 1:
                return mind.head[bar];
            case 2:
                return mind.old[bar];
            case 3:
                return mind.learnt[bar];
            case 4:
                return score.heapOf[bar];
            case 5:
                return mind.doors >> bar & 1;
            case 6:
                return mind.marks >> bar & 1;
            default:
                return NONE;
        }
    }

    public int part(int part, int what) {
        if (part < 0 || part >= score.parts) {
            return NONE;
        }
        if (what == 0) {
            return score.partFirst[part];
        }
        return what == 1 ? score.partLast[part] : NONE;
    }

    public boolean set(int what, int bar, boolean is) {
        if (what < 0 || what > 1 || !score.hasBar(bar)) {
            return false;
        }
        int there = what == 0 ? mind.doors : mind.marks;
        if ((there >> bar & 1) == (is ? 1 : 0)) {
            return false;
        }
        int changed = there ^ 1 << bar;
        if (what == 0) {
            mind.doors = changed;
        } else {
            mind.marks = changed;
        }
        return true;
    }

    public int alike(int a, int b) {
        if (!score.hasBar(a) || !score.hasBar(b) || a == b) {
            return NONE;
        }
        return score.countAlike(a, b);
    }

    public int fork(int i) {
        if (i < 0) {
            return NONE;
        }
        int ahead = 0;
        for (int a = 0; a < score.bars; a++) {
            for (int b = a + 1; b < score.bars; b++) {
                if (score.forksAt(a, b)) {
                    if (ahead == i) {
                        return 100 * a + b;
                    }
                    ahead++;
                }
            }
        }
        return NONE;
    }

    public int forks() {
        int many = 0;
        for (int a = 0; a < score.bars; a++) {
            for (int b = a + 1; b < score.bars; b++) {
                if (score.forksAt(a, b)) {
                    many++;
                }
            }
        }
        return many;
    }

    public int behind(int bar, int to) {
        if (!score.hasBar(bar) || to < -2 || to >= score.bars || to == bar) {
            return NONE;
        }
        flow.weigh(bar, mind.hold);
        boolean marked = (mind.marks >> bar & 1) != 0;
        if (to == -1) {
            return flow.stop[bar];
        }
        return to == -2 ? flow.goesOn(bar, marked) : flow.crossesTo(bar, to, marked);
    }

    public int saved(int bar) {
        return score.hasBar(bar) ? score.doorFor(bar, mind.doors) : NONE;
    }

    public int play(int from, int to) {
        return score.hasBars(from, to) ? player.perform(from, to) : NONE;
    }

    public int slow(int from, int to) {
        if (!score.hasBars(from, to)) {
            return NONE;
        }
        int shown = 0;
        for (int i = from; i <= to; i++) {
            if (mind.head[i] < KNOWN) {
                shown++;
            }
            mind.goSlowly(i, score.law[GAIN]);
        }
        return shown;
    }

    public int latest(int what) {
        return player.told && what >= 0 && what < Player.TOLD_SIZE ? player.tells[what] : NONE;
    }

    public int days(int n) {
        if (n < 0 || n > MOST_AT_ONCE || mind.day + n > LATEST_DAY) {
            return NONE;
        }
        mind.rest(n, score);
        return mind.day;
    }

    public int through(int from, int jolt, int odds, int what) {
        if (!score.hasBar(from) || !canJolt(jolt, odds) || what < 0 || what >= Flow.SUMS) {
            return NONE;
        }
        flow.weighAll(mind.hold);
        flow.send(from, jolt, odds, mind.doors, mind.marks);
        return flow.millionths(what);
    }

    private boolean canJolt(int jolt, int odds) {
        return (jolt == NONE || score.hasBar(jolt)) && odds >= 0 && odds <= WHOLE;
    }

    public int put(int doors, int marks, int jolt, int odds, int what) {
        if (doors < 0 || doors > MOST_PUT || marks < 0 || marks > MOST_PUT || !canJolt(jolt, odds)) {
            return NONE;
        }
        int many = doors + marks;
        if (many < 1 || many > MOST_PUT || what < -1 || what >= many) {
            return NONE;
        }
        if (score.bars - Integer.bitCount(mind.doors) < doors
                || score.bars - Integer.bitCount(mind.marks) < marks) {
            return NONE;
        }
        search.putBest(mind, doors, marks, jolt, odds);
        return search.answer(what);
    }

    public int plans(int n, int what) {
        if (score.plans == 0 || score.bars == 0 || n < 1 || n > MOST_PLAN_DAYS) {
            return NONE;
        }
        if (what < -1 || what >= n) {
            return NONE;
        }
        search.planBest(mind, n);
        return search.answer(what);
    }

    public int plan(int plan) {
        if (plan < 0 || plan >= score.plans || mind.day + 1 > LATEST_DAY) {
            return NONE;
        }
        mind.follow(score, plan);
        return mind.day;
    }

    public int rules() {
        if (tape.length > MOST_RULE_BYTES) {
            return TOO_MUCH;
        }
        boolean fine = rulesReader.readAll();
        tape.length = 0;
        if (!fine) {
            return NONE;
        }
        ruleBook.copyFrom(rulesReader.rules);
        return ruleBook.count;
    }

    public int practise(int n) {
        if (n < 0 || n > MOST_RULE_DAYS || mind.day + n > LATEST_DAY) {
            return NONE;
        }
        countCutsNow();
        int done = 0;
        for (int i = 0; i < n; i++) {
            if (dayByRules(mind)) {
                done++;
            }
        }
        return done;
    }

    private void countCutsNow() {
        for (int i = 0; i < score.bars; i++) {
            cutsNow[i] = diaryBook.countAt(i, time);
        }
    }

    private boolean dayByRules(Mind of) {
        int plan = ruleBook.planFor(of, cutsNow, score.bars);
        if (plan == NONE) {
            of.rest(1, score);
            return false;
        }
        of.follow(score, plan);
        return true;
    }

    public int reach(int goal) {
        if (goal < 0 || goal > MILLION || score.bars == 0) {
            return NONE;
        }
        countCutsNow();
        Mind trial = search.trial(mind);
        for (int day = 0; day < MOST_RULE_DAYS; day++) {
            if (flow.endOf(trial) >= goal) {
                return day;
            }
            dayByRules(trial);
        }
        return flow.endOf(trial) >= goal ? MOST_RULE_DAYS : NONE;
    }

    public int rule() {
        countCutsNow();
        return ruleBook.planFor(mind, cutsNow, score.bars);
    }

    public int finger(int bar) {
        if (!score.hasBar(bar)) {
            return NONE;
        }
        mind.old[bar] = mind.hold[bar];
        mind.hold[bar] = 0;
        return mind.old[bar];
    }

    public int diary(int day, int from, int to) {
        if (day < 0 || day > MOST_TOLD_DAY || !score.hasBars(from, to)) {
            return NONE;
        }
        return diaryBook.tell(from, day, true, time);
    }

    public int paper(int days, int bar, boolean known) {
        if (days < 0 || days > MOST_TOLD_DAY || !score.hasBar(bar)) {
            return NONE;
        }
        return paperBook.tell(bar, days, known, time);
    }

    public boolean untell(boolean paper, int which) {
        return paper ? paperBook.takeBack(which, time) : diaryBook.takeBack(which, time);
    }

    public int later(int by) {
        if (by < 0 || by > MOST_AT_ONCE || time + by > LATEST_DAY) {
            return NONE;
        }
        time += by;
        return time;
    }

    public int cuts(int bar, int k) {
        return score.hasBar(bar) ? diaryBook.countAt(bar, k) : NONE;
    }

    public int diaries(int what, int k) {
        if (what == 0) {
            return diaryBook.countAll(k);
        }
        return what == 1 ? countByHeaps(k) : NONE;
    }

    private int countByHeaps(int k) {
        int many = 0;
        for (int i = 0; i < score.heaps; i++) {
            many += diaryBook.countAt(score.heapFirst[i], k);
        }
        return many;
    }

    public long luck(int part, int k) {
        int many = diaryBook.countAll(k);
        if (many == 0 || part < 0 || part > 1) {
            return NONE;
        }
        if (many > MOST_LUCK) {
            return TOO_MUCH;
        }
        long upper = waysAtHeaps(many, countByHeaps(k));
        long lower = power(score.bars, many);
        return lowestPart(upper, lower, part);
    }

    /** Of all rows of so many beginnings, how many have at least so many of them where a heap begins. */
    private long waysAtHeaps(int many, int least) {
        long ways = 0;
        long choices = 1;
        for (int i = 0; i <= many; i++) {
            if (i >= least) {
                ways += choices * power(score.heaps, i) * power(score.bars - score.heaps, many - i);
            }
            choices = choices * (many - i) / (i + 1);
        }
        return ways;
    }

    private static long power(long base, int times) {
        long product = 1;
        for (int i = 0; i < times; i++) {
            product *= base;
        }
        return product;
    }

    /** The upper (0) or lower (1) part of a fraction in lowest terms. */
    private static long lowestPart(long upper, long lower, int part) {
        long divisor = commonDivisor(Math.abs(upper), lower);
        if (divisor == 0) {
            return NONE;
        }
        return (part == 0 ? upper : lower) / divisor;
    }

    private static long commonDivisor(long a, long b) {
        long greater = a;
        long less = b;
        // Each two rounds halve the numbers at least, so no pair of longs takes 200.
        for (int i = 0; i < 200 && less != 0; i++) {
            long left = greater % less;
            greater = less;
            less = left;
        }
        return greater;
    }

    public int hang(int part, int k) {
        if (part < 0 || part > 1) {
            return NO_FRACTION;
        }
        int same = 0;
        int sameCut = 0;
        int other = 0;
        int otherCut = 0;
        for (int i = 1; i < score.bars; i++) {
            if (mind.learnt[i] != NONE && mind.learnt[i - 1] != NONE) {
                int cut = diaryBook.countAt(i, k) > 0 ? 1 : 0;
                if (mind.learnt[i] == mind.learnt[i - 1]) {
                    same++;
                    sameCut += cut;
                } else {
                    other++;
                    otherCut += cut;
                }
            }
        }
        if (same == 0 || other == 0) {
            return NO_FRACTION;
        }
        return (int) lowestPart(otherCut * same - sameCut * other, other * same, part);
    }

    public int laws(int what, int k) {
        if (what < 0 || what > 2) {
            return NONE;
        }
        int many = 0;
        int least = NONE;
        int greatest = NONE;
        for (int fade = 0; fade <= MOST_FADE; fade++) {
            if (letsAllPapers(fade, k)) {
                many++;
                least = least == NONE ? fade : least;
                greatest = fade;
            }
        }
        if (what == 0) {
            return many;
        }
        return what == 1 ? least : greatest;
    }

    private boolean letsAllPapers(int fade, int k) {
        for (int i = 0; i < paperBook.size; i++) {
            if (paperBook.counts(i, k)) {
                int then = Mind.faded(mind.head[paperBook.bars[i]], paperBook.days[i], fade);
                if (then >= KNOWN != paperBook.known[i]) {
                    return false;
                }
            }
        }
        return true;
    }

    public int hidden(int level) {
        if (level < 0 || level > WHOLE) {
            return NONE;
        }
        int bits = 0;
        for (int i = 0; i < score.bars; i++) {
            if (mind.hold[i] >= level && mind.head[i] < level) {
                bits |= 1 << i;
            }
        }
        return bits;
    }

    public int months(int bar, int level) {
        if (!score.hasBar(bar) || level < 0 || level > WHOLE) {
            return NONE;
        }
        int left = mind.hold[bar];
        for (int day = 0; day <= MOST_MONTHS; day++) {
            if (left < level) {
                return day;
            }
            left = Mind.faded(left, 1, score.law[FADE]);
        }
        return NONE;
    }

    public int back(int bar, int part) {
        if (!score.hasBar(bar) || part < 0 || part > 1) {
            return NONE;
        }
        int both = mind.old[bar] + mind.hold[bar];
        return both == 0 ? NONE : (int) lowestPart(mind.old[bar], both, part);
    }

    public int seed(int w) {
        int before = mind.w;
        mind.w = w;
        return before;
    }

    public int image(int box) {
        if (box < 0 || box >= BOXES) {
            return NONE;
        }
        boxes[box].copyFrom(mind);
        boxes[box].kept = true;
        return mind.day;
    }

    public int again(int box) {
        if (box < 0 || box >= BOXES || !boxes[box].kept) {
            return NONE;
        }
        mind.copyFrom(boxes[box]);
        return mind.day;
    }

    public int about(int what) {
        switch (what) {
            case 0:
                return score.bars;
            case 1:
                return score.heaps;
            case 2:
                return score.parts;
            case 3:
                return score.plans;
            case 4:
                return diaryBook.size;
            case 5:
                return paperBook.size;
            case 6:
                return time;
            case 7:
                return mind.day;
            case 8:
                return tape.length;
            case 9:
                return mind.w;
            case 10:
                return ruleBook.count;
            case 11:
                return ruleBook.units;
            default:
                return NONE;
        }
    }

    /** The bytes that were fed, read token by token; the first fault met is kept till the next reading. */
    private static final class Tape {
        private static final int AT_END = 0;
        private static final int WORD = 1;
        private static final int NUMBER = 2;
        private static final int SIGN = 3;
        private static final int FAULTY = 4;
        private static final int LONGEST_WORD = 8;
        private static final int LONGEST_NUMBER = 4;

        private final byte[] bytes = new byte[MOST_BYTES];
        private final long[] wordLetters = new long[WORD_COUNT];
        private int length = 0;
        private String signs = "";
        private int at = 0;
        private int start = 0;
        private int kind = AT_END;
        private int word = NONE;
        private long letters = 0;
        private int number = 0;
        private int sign = 0;
        private int fault = 0;
        private int place = NONE;

        Tape() {
            for (int i = 0; i < WORD_COUNT; i++) {
                for (int k = i * WORD_WIDTH; k < (i + 1) * WORD_WIDTH && WORDS.charAt(k) != ' '; k++) {
                    wordLetters[i] = withLetter(wordLetters[i], WORDS.charAt(k));
                }
            }
        }

        /** Words of up to 8 letters are told apart by one number, 5 bits a letter. */
        private static long withLetter(long letters, int c) {
            return letters << 5 | c - 'a' + 1;
        }

        void lay(int four) {
            for (int shift = 24; shift >= 0; shift -= 8) {
                if (length < bytes.length) {
                    bytes[length] = (byte) (four >>> shift);
                    length++;
                }
            }
        }

        void open(String withSigns) {
            signs = withSigns;
            at = 0;
            fault = 0;
            place = NONE;
            advance();
        }

        boolean isFine() {
            return fault == 0;
        }

        boolean isAtEnd() {
            return kind == AT_END;
        }

        /** A fault at the token that is looked at; behind the first one nothing is read any more. */
        void fail(int what) {
            if (fault == 0) {
                fault = what;
                place = start;
            }
            kind = FAULTY;
            word = NONE;
        }

        void advance() {
            if (fault != 0) {
                return;
            }
            while (at < length && (bytes[at] == ' ' || bytes[at] == '\n')) {
                at++;
            }
            start = at;
            word = NONE;
            if (at >= length) {
                kind = AT_END;
            } else if (isLetter(at)) {
                readWord();
            } else if (isDigit(at)) {
                readNumber();
            } else {
                readSign();
            }
        }

        private boolean isLetter(int i) {
            return i < length && bytes[i] >= 'a' && bytes[i] <= 'z';
        }

        private boolean isDigit(int i) {
            return i < length && bytes[i] >= '0' && bytes[i] <= '9';
        }

        private void readWord() {
            kind = WORD;
            letters = 0;
            while (at < length && isLetter(at)) {
                letters = withLetter(letters, bytes[at]);
                at++;
            }
            if (at - start > LONGEST_WORD) {
                fail(NO_TOKEN);
                return;
            }
            for (int i = 0; i < WORD_COUNT && word == NONE; i++) {
                if (wordLetters[i] == letters) {
                    word = i;
                }
            }
        }

        private void readNumber() {
            kind = NUMBER;
            number = 0;
            while (at < length && isDigit(at)) {
                number = number * 10 + bytes[at] - '0';
                at++;
            }
            if (at - start > LONGEST_NUMBER || isLetter(at)) {
                fail(NO_TOKEN);
            }
        }

        private void readSign() {
            kind = SIGN;
            sign = bytes[at] & 255;
            at++;
            if (signs.indexOf((char) sign) < 0) {
                fail(NO_TOKEN);
            }
        }

        boolean isSign(char c) {
            return kind == SIGN && sign == c;
        }

        boolean isNumber() {
            return kind == NUMBER;
        }

        /** Whether a name or a look stands here; else a fault. */
        boolean atName() {
            if (kind == WORD && word == NONE) {
                return true;
            }
            fail(MISPLACED);
            return false;
        }

        /** Whether a number that can be stands here; else a fault. */
        boolean atNumber(int least, int most) {
            if (kind != NUMBER) {
                fail(MISPLACED);
                return false;
            }
            if (number < least || number > most) {
                fail(BAD_NUMBER);
                return false;
            }
            return true;
        }

        boolean takeWord(int wanted) {
            if (word != wanted) {
                fail(MISPLACED);
                return false;
            }
            advance();
            return true;
        }

        void takeSign(char wanted) {
            if (isSign(wanted)) {
                advance();
            } else {
                fail(MISPLACED);
            }
        }
    }

    /** A piece as it was told. */
    private static final class Score {
        private int bars = 0;
        private final long[] looks = new long[MOST_BARS];
        private final int[] heapOf = new int[MOST_BARS];
        private int heaps = 0;
        private final long[] heapNames = new long[MOST_HEAPS];
        private final int[] heapFirst = new int[MOST_HEAPS];
        private int parts = 0;
        private final long[] partNames = new long[MOST_PARTS];
        private final int[] partFirst = new int[MOST_PARTS];
        private final int[] partLast = new int[MOST_PARTS];
        private int plans = 0;
        private final long[] planNames = new long[MOST_PLANS];
        private final int[] planFirst = new int[MOST_PLANS];
        private final int[] planLast = new int[MOST_PLANS];
        private final int[] planTimes = new int[MOST_PLANS];
        private final int[] planSlow = new int[MOST_PLANS];
        private int doors = 0;
        private int marks = 0;
        private boolean lawTold = false;
        private final int[] law = new int[LAW_SIZE];

        Score() {
            System.arraycopy(LAW_UNTOLD, 0, law, 0, LAW_SIZE);
        }

        void empty() {
            bars = 0;
            heaps = 0;
            parts = 0;
            plans = 0;
            doors = 0;
            marks = 0;
            lawTold = false;
            System.arraycopy(LAW_UNTOLD, 0, law, 0, LAW_SIZE);
        }

        void copyFrom(Score other) {
            bars = other.bars;
            System.arraycopy(other.looks, 0, looks, 0, MOST_BARS);
            System.arraycopy(other.heapOf, 0, heapOf, 0, MOST_BARS);
            heaps = other.heaps;
            System.arraycopy(other.heapNames, 0, heapNames, 0, MOST_HEAPS);
            System.arraycopy(other.heapFirst, 0, heapFirst, 0, MOST_HEAPS);
            parts = other.parts;
            System.arraycopy(other.partNames, 0, partNames, 0, MOST_PARTS);
            System.arraycopy(other.partFirst, 0, partFirst, 0, MOST_PARTS);
            System.arraycopy(other.partLast, 0, partLast, 0, MOST_PARTS);
            plans = other.plans;
            System.arraycopy(other.planNames, 0, planNames, 0, MOST_PLANS);
            System.arraycopy(other.planFirst, 0, planFirst, 0, MOST_PLANS);
            System.arraycopy(other.planLast, 0, planLast, 0, MOST_PLANS);
            System.arraycopy(other.planTimes, 0, planTimes, 0, MOST_PLANS);
            System.arraycopy(other.planSlow, 0, planSlow, 0, MOST_PLANS);
            doors = other.doors;
            marks = other.marks;
            lawTold = other.lawTold;
            System.arraycopy(other.law, 0, law, 0, LAW_SIZE);
        }

        boolean hasBar(int bar) {
            return bar >= 0 && bar < bars;
        }

        boolean hasBars(int from, int to) {
            return from >= 0 && from <= to && to < bars;
        }

        static int placeOf(long name, long[] names, int many) {
            for (int i = 0; i < many && i < names.length; i++) {
                if (names[i] == name) {
                    return i;
                }
            }
            return NONE;
        }

        int heapNamed(long name) {
            return placeOf(name, heapNames, heaps);
        }

        int partNamed(long name) {
            return placeOf(name, partNames, parts);
        }

        int planNamed(long name) {
            return placeOf(name, planNames, plans);
        }

        int lastBarOf(int heap) {
            return (heap + 1 < heaps ? heapFirst[heap + 1] : bars) - 1;
        }

        int countAlike(int a, int b) {
            int same = 0;
            while (same < MOST_ALIKE && same <= a && same <= b && looks[a - same] == looks[b - same]) {
                same++;
            }
            return same;
        }

        /** The first bar is the lower one, so that only the second can have nothing behind it. */
        boolean forksAt(int first, int second) {
            if (looks[first] != looks[second]) {
                return false;
            }
            return second + 1 >= bars || looks[first + 1] != looks[second + 1];
        }

        int doorFor(int bar, int among) {
            for (int i = bar + 1; i < bars && i - bar <= law[SAVE]; i++) {
                if ((among >> i & 1) != 0) {
                    return i;
                }
            }
            return NONE;
        }
    }

    /** Reads the tape as a piece into a score of its own, so that a fault leaves the piece there is. */
    private static final class PieceReader {
        private final Tape tape;
        private final Score score = new Score();

        PieceReader(Tape tape) {
            this.tape = tape;
        }

        boolean readAll() {
            score.empty();
            tape.open(";");
            for (int i = 0; i < MOST_BYTES && tape.isFine() && !tape.isAtEnd(); i++) {
                switch (tape.word) {
                    case W_HEAP:
                        readHeap();
                        break;
                    case W_PART:
                        readPart();
                        break;
                    case W_DOOR:
                        score.doors = withBar(score.doors);
                        break;
                    case W_MARK:
                        score.marks = withBar(score.marks);
                        break;
                    case W_LAW:
                        readLaw();
                        break;
                    case W_PLAN:
                        readPlan();
                        break;
                    default:
                        tape.fail(MISPLACED);
                        break;
                }
            }
            return tape.isFine();
        }

        /** A name that is not told yet, behind the line's first word; false is a fault. */
        private boolean beginNamed(int told, int most, long[] names) {
            if (told >= most) {
                tape.fail(MISPLACED);
                return false;
            }
            tape.advance();
            if (!tape.atName()) {
                return false;
            }
            if (Score.placeOf(tape.letters, names, told) != NONE) {
                tape.fail(TOLD_ALREADY);
                return false;
            }
            names[told] = tape.letters;
            tape.advance();
            return true;
        }

        private void readHeap() {
            if (!beginNamed(score.heaps, MOST_HEAPS, score.heapNames)) {
                return;
            }
            score.heapFirst[score.heaps] = score.bars;
            boolean open = true;
            for (int i = 0; i <= MOST_BARS && open; i++) {
                open = readLook() && !tape.isSign(';');
            }
            tape.takeSign(';');
            score.heaps++;
        }

        private boolean readLook() {
            if (!tape.atName()) {
                return false;
            }
            if (score.bars >= MOST_BARS) {
                tape.fail(MISPLACED);
                return false;
            }
            score.looks[score.bars] = tape.letters;
            score.heapOf[score.bars] = score.heaps;
            score.bars++;
            tape.advance();
            return true;
        }

        private void readPart() {
            if (!beginNamed(score.parts, MOST_PARTS, score.partNames) || !tape.takeWord(W_FROM)) {
                return;
            }
            int first = takeHeap(0);
            if (first == NONE || !tape.takeWord(W_TO)) {
                return;
            }
            int last = takeHeap(first);
            if (last == NONE) {
                return;
            }
            score.partFirst[score.parts] = score.heapFirst[first];
            score.partLast[score.parts] = score.lastBarOf(last);
            score.parts++;
            tape.takeSign(';');
        }

        private int takeHeap(int least) {
            if (!tape.atName()) {
                return NONE;
            }
            int heap = score.heapNamed(tape.letters);
            if (heap == NONE || heap < least) {
                tape.fail(heap == NONE ? UNKNOWN_NAME : WRONG_ORDER);
                return NONE;
            }
            tape.advance();
            return heap;
        }

        /** A line that puts a door or a mark: those there were, and this one. */
        private int withBar(int there) {
            tape.advance();
            if (!tape.atNumber(0, score.bars - 1)) {
                return there;
            }
            int bit = 1 << tape.number;
            if ((there & bit) != 0) {
                tape.fail(TOLD_ALREADY);
                return there;
            }
            tape.advance();
            tape.takeSign(';');
            return there | bit;
        }

        private void readLaw() {
            if (score.lawTold) {
                tape.fail(MISPLACED);
                return;
            }
            score.lawTold = true;
            tape.advance();
            for (int i = 0; i < LAW_SIZE && tape.isFine(); i++) {
                score.law[i] = takeNumber(W_GAIN + i, LAW_LEAST[i], LAW_MOST[i]);
            }
            tape.takeSign(';');
        }

        /** A word and the number behind it; NONE is a fault. */
        private int takeNumber(int word, int least, int most) {
            if (!tape.takeWord(word) || !tape.atNumber(least, most)) {
                return NONE;
            }
            int number = tape.number;
            tape.advance();
            return number;
        }

        private void readPlan() {
            if (!beginNamed(score.plans, MOST_PLANS, score.planNames)) {
                return;
            }
            int plan = score.plans;
            score.planFirst[plan] = takeNumber(W_FROM, 0, score.bars - 1);
            score.planLast[plan] = takeNumber(W_TO, score.planFirst[plan], score.bars - 1);
            score.planTimes[plan] = takeNumber(W_TIMES, 0, MOST_TIMES);
            score.planSlow[plan] = takeNumber(W_SLOW, 0, MOST_TIMES);
            tape.takeSign(';');
            score.plans++;
        }
    }

    /** What is held and known of each bar, where doors and marks are, the day, the draws: what an image keeps. */
    private static final class Mind {
        private final int[] hold = new int[MOST_BARS];
        private final int[] head = new int[MOST_BARS];
        private final int[] old = new int[MOST_BARS];
        private final int[] learnt = new int[MOST_BARS];
        private int doors = 0;
        private int marks = 0;
        private int day = 0;
        private int w = 1;
        private boolean kept = false;

        void begin(Score score) {
            Arrays.fill(hold, 0);
            Arrays.fill(head, 0);
            Arrays.fill(old, 0);
            Arrays.fill(learnt, NONE);
            doors = score.doors;
            marks = score.marks;
            day = 0;
        }

        void copyFrom(Mind other) {
            System.arraycopy(other.hold, 0, hold, 0, MOST_BARS);
            System.arraycopy(other.head, 0, head, 0, MOST_BARS);
            System.arraycopy(other.old, 0, old, 0, MOST_BARS);
            System.arraycopy(other.learnt, 0, learnt, 0, MOST_BARS);
            doors = other.doors;
            marks = other.marks;
            day = other.day;
            w = other.w;
        }

        private static int grown(int it, int by) {
            return it + (WHOLE - it) * by / WHOLE;
        }

        void growHold(int bar, int by) {
            hold[bar] = grown(hold[bar], by);
            if (hold[bar] > 0 && learnt[bar] == NONE) {
                learnt[bar] = day;
            }
        }

        void goSlowly(int bar, int gain) {
            head[bar] = grown(head[bar], gain);
            growHold(bar, gain / 2);
        }

        static int faded(int it, int days, int fade) {
            int left = it;
            for (int i = 0; i < days; i++) {
                int less = left * fade / WHOLE;
                if (less == 0) {
                    return left;
                }
                left -= less;
            }
            return left;
        }

        void rest(int days, Score score) {
            int fade = score.law[FADE];
            for (int i = 0; i < score.bars; i++) {
                hold[i] = faded(hold[i], days, fade);
                head[i] = faded(head[i], days, fade);
                old[i] = faded(old[i], days, fade);
            }
            day += days;
        }

        /** A plan's day; no bar hangs on another there, so each goes through all its passes at once. */
        void follow(Score score, int plan) {
            int gain = score.law[GAIN];
            for (int bar = score.planFirst[plan]; bar <= score.planLast[plan]; bar++) {
                for (int i = 0; i < score.planTimes[plan]; i++) {
                    growHold(bar, gain);
                }
                for (int i = 0; i < score.planSlow[plan]; i++) {
                    goSlowly(bar, gain);
                }
            }
            rest(1, score);
        }

        int draw(int n) {
            w = w * 1103515245 + 12345;
            return n > 0 ? (w >>> 16) % n : 0;
        }
    }

    /** What comes behind each bar, and where many parts get that go on so, step by step. */
    private static final class Flow {
        private static final int AT_END = 0;
        private static final int LOST = 1;
        private static final int SAVED = 2;
        private static final int HEARD = 3;
        private static final int CROSSED = 4;
        private static final int SUMS = 5;
        private static final int STEPS = 120;
        private static final long ALL_PARTS = 1000000000L;

        private final Score score;
        /** In row i: the bars alike with bar i, how much they are so, and what crosses to them. */
        private final int[] likes = new int[MOST_BARS];
        private final int[] likeBar = new int[MOST_BARS * MOST_BARS];
        private final int[] likeBy = new int[MOST_BARS * MOST_BARS];
        private final int[] crossShare = new int[MOST_BARS * MOST_BARS];
        private final int[] stop = new int[MOST_BARS];
        private final int[] left = new int[MOST_BARS];
        private final int[] doorOf = new int[MOST_BARS];
        private final long[] sums = new long[SUMS];
        private long[] now = new long[MOST_BARS];
        private long[] next = new long[MOST_BARS];

        Flow(Score score) {
            this.score = score;
        }

        /** A new piece: which bars are alike is looked up once. */
        void begin() {
            for (int i = 0; i < score.bars; i++) {
                int row = i * MOST_BARS;
                int many = 0;
                for (int j = 0; j < score.bars; j++) {
                    int by = i == j ? 0 : score.countAlike(i, j);
                    if (by > 0) {
                        likeBar[row + many] = j;
                        likeBy[row + many] = by;
                        many++;
                    }
                }
                likes[i] = many;
            }
        }

        /** Stop, crossings and the rest behind a bar, as if it had no mark. */
        void weigh(int bar, int[] hold) {
            stop[bar] = (WHOLE - hold[bar]) * score.law[WEAK] / WHOLE;
            int rest = WHOLE - stop[bar];
            int row = bar * MOST_BARS;
            for (int k = row; k < row + likes[bar]; k++) {
                int share = hold[likeBar[k]] * likeBy[k] * score.law[CROSS] / WHOLE;
                crossShare[k] = Math.min(rest, share);
                rest -= crossShare[k];
            }
            left[bar] = rest;
        }

        void weighAll(int[] hold) {
            for (int i = 0; i < score.bars; i++) {
                weigh(i, hold);
            }
        }

        int goesOn(int bar, boolean marked) {
            return marked ? WHOLE - stop[bar] : left[bar];
        }

        int crossesTo(int bar, int to, boolean marked) {
            int row = bar * MOST_BARS;
            for (int k = row; k < row + likes[bar] && !marked; k++) {
                if (likeBar[k] == to) {
                    return crossShare[k];
                }
            }
            return 0;
        }

        /** The bar to which a draw crosses from one without a mark; NONE if it goes on. */
        int crossingFor(int bar, int draw) {
            int row = bar * MOST_BARS;
            int below = stop[bar];
            for (int k = row; k < row + likes[bar]; k++) {
                below += crossShare[k];
                if (draw < below) {
                    return likeBar[k];
                }
            }
            return NONE;
        }

        boolean isHeard(int bar, int door) {
            return door == NONE || door - bar > score.law[EAR];
        }

        int millionths(int what) {
            return (int) (sums[what] / 1000);
        }

        /** The end in millionths, from the first bar, without a jolt. */
        int endOf(Mind mind) {
            weighAll(mind.hold);
            send(0, NONE, 0, mind.doors, mind.marks);
            return millionths(AT_END);
        }

        /** All parts go through the piece; what is behind each bar has been weighed. */
        void send(int from, int jolt, int odds, int doors, int marks) {
            Arrays.fill(sums, 0);
            Arrays.fill(now, 0);
            for (int i = 0; i < score.bars; i++) {
                doorOf[i] = score.doorFor(i, doors);
            }
            now[from] = ALL_PARTS;
            boolean moving = true;
            for (int step = 0; step < STEPS && moving; step++) {
                Arrays.fill(next, 0);
                moving = false;
                for (int i = 0; i < score.bars; i++) {
                    if (now[i] != 0) {
                        moving = true;
                        long jolted = i == jolt ? now[i] * odds / WHOLE : 0;
                        spread(i, jolted, (marks >> i & 1) != 0);
                    }
                }
                long[] gone = now;
                now = next;
                next = gone;
            }
        }

        private void spread(int bar, long jolted, boolean marked) {
            long others = now[bar] - jolted;
            halt(bar, jolted + others * stop[bar] / WHOLE);
            int row = bar * MOST_BARS;
            for (int k = row; k < row + likes[bar] && !marked; k++) {
                long parts = others * crossShare[k] / WHOLE;
                sums[CROSSED] += parts;
                arrive(likeBar[k] + 1, parts);
            }
            arrive(bar + 1, others * goesOn(bar, marked) / WHOLE);
        }

        private void halt(int bar, long parts) {
            int door = doorOf[bar];
            if (door == NONE) {
                sums[LOST] += parts;
            } else {
                sums[SAVED] += parts;
                next[door] += parts;
            }
            if (isHeard(bar, door)) {
                sums[HEARD] += parts;
            }
        }

        private void arrive(int bar, long parts) {
            if (bar >= score.bars) {
                sums[AT_END] += parts;
            } else {
                next[bar] += parts;
            }
        }
    }

    /** Plays bar by bar, and tells of the latest play. */
    private static final class Player {
        private static final int ENDED = 0;
        private static final int LAST = 1;
        private static final int STOPS = 2;
        private static final int SAVED = 3;
        private static final int HEARD = 4;
        private static final int CROSSED = 5;
        private static final int TOLD_SIZE = 6;
        private static final int AT_BAR = 0;
        private static final int AT_END = 1;
        private static final int LOST = 2;
        private static final int TOO_LONG = 3;

        private final Score score;
        private final Mind mind;
        private final Flow flow;
        private final int[] tells = new int[TOLD_SIZE];
        private boolean told = false;

        Player(Score score, Mind mind, Flow flow) {
            this.score = score;
            this.mind = mind;
            this.flow = flow;
        }

        int perform(int from, int to) {
            Arrays.fill(tells, 0);
            told = true;
            tells[ENDED] = TOO_LONG;
            int bar = from;
            int played = 0;
            while (played < MOST_PLAYED && bar != NONE) {
                tells[LAST] = bar;
                bar = nextBar(bar, to);
                played++;
            }
            return played;
        }

        /** Where it goes on; NONE when it has ended. */
        private int nextBar(int bar, int to) {
            flow.weigh(bar, mind.hold);
            int draw = mind.draw(WHOLE);
            if (draw < flow.stop[bar]) {
                return stopAt(bar);
            }
            boolean marked = (mind.marks >> bar & 1) != 0;
            int crossing = marked ? NONE : flow.crossingFor(bar, draw);
            int link = crossing == NONE ? bar : crossing;
            mind.growHold(link, score.law[GAIN]);
            if (crossing != NONE) {
                tells[CROSSED]++;
            } else if (bar == to) {
                tells[ENDED] = AT_BAR;
                return NONE;
            }
            if (link + 1 >= score.bars) {
                tells[ENDED] = AT_END;
                return NONE;
            }
            return link + 1;
        }

        private int stopAt(int bar) {
            int door = score.doorFor(bar, mind.doors);
            tells[STOPS]++;
            if (flow.isHeard(bar, door)) {
                tells[HEARD]++;
            }
            if (door == NONE) {
                tells[ENDED] = LOST;
            } else {
                tells[SAVED]++;
            }
            return door;
        }
    }

    /** Looks for the row of bars, or of plans, with most at the end; of like ones the first tried stays. */
    private static final class Search {
        private final Score score;
        private final Flow flow;
        private final Mind[] dayMinds = new Mind[MOST_PLAN_DAYS + 1];
        private final int[] row = new int[MOST_PLAN_DAYS];
        private final int[] bestRow = new int[MOST_PLAN_DAYS];
        private int bestEnd = NONE;
        private int jolt = NONE;
        private int odds = 0;

        Search(Score score, Flow flow) {
            this.score = score;
            this.flow = flow;
            for (int i = 0; i <= MOST_PLAN_DAYS; i++) {
                dayMinds[i] = new Mind();
            }
        }

        Mind trial(Mind mind) {
            dayMinds[0].copyFrom(mind);
            return dayMinds[0];
        }

        int answer(int what) {
            return what >= 0 && what < MOST_PLAN_DAYS ? bestRow[what] : bestEnd;
        }

        private void compare(int end) {
            if (end > bestEnd) {
                bestEnd = end;
                System.arraycopy(row, 0, bestRow, 0, MOST_PLAN_DAYS);
            }
        }

        void putBest(Mind mind, int doors, int marks, int joltAt, int joltOdds) {
            bestEnd = NONE;
            jolt = joltAt;
            odds = joltOdds;
            flow.weighAll(mind.hold);
            boolean doorFirst = doors > 0;
            for (int bar = 0; bar < score.bars; bar++) {
                if (isFree(mind, doorFirst, bar)) {
                    row[0] = bar;
                    int withDoor = doorFirst ? mind.doors | 1 << bar : mind.doors;
                    int withMark = doorFirst ? mind.marks : mind.marks | 1 << bar;
                    if (doors + marks == 1) {
                        tryPut(withDoor, withMark);
                    } else {
                        putSecond(mind, withDoor, withMark, marks > 0, doors == marks ? 0 : bar + 1);
                    }
                }
            }
        }

        private void putSecond(Mind mind, int doors, int marks, boolean mark, int from) {
            for (int bar = from; bar < score.bars; bar++) {
                if (isFree(mind, !mark, bar)) {
                    row[1] = bar;
                    tryPut(mark ? doors : doors | 1 << bar, mark ? marks | 1 << bar : marks);
                }
            }
        }

        private static boolean isFree(Mind mind, boolean door, int bar) {
            return ((door ? mind.doors : mind.marks) >> bar & 1) == 0;
        }

        private void tryPut(int doors, int marks) {
            flow.send(0, jolt, odds, doors, marks);
            compare(flow.millionths(Flow.AT_END));
        }

        void planBest(Mind mind, int n) {
            bestEnd = NONE;
            dayMinds[0].copyFrom(mind);
            tryDay(0, n);
        }

        private void tryDay(int day, int n) {
            if (day >= n || day >= MOST_PLAN_DAYS) {
                compare(flow.endOf(dayMinds[day]));
                return;
            }
            for (int plan = 0; plan < score.plans; plan++) {
                row[day] = plan;
                dayMinds[day + 1].copyFrom(dayMinds[day]);
                dayMinds[day + 1].follow(score, plan);
                tryDay(day + 1, n);
            }
        }
    }

    /** Diaries or papers, each told at a time and perhaps untold at another. */
    private static final class Ledger {
        private final int[] bars = new int[MOST_TOLD];
        private final int[] days = new int[MOST_TOLD];
        private final boolean[] known = new boolean[MOST_TOLD];
        private final int[] toldAt = new int[MOST_TOLD];
        private final int[] untoldAt = new int[MOST_TOLD];
        private int size = 0;

        int tell(int bar, int day, boolean was, int time) {
            if (size >= MOST_TOLD) {
                return NONE;
            }
            bars[size] = bar;
            days[size] = day;
            known[size] = was;
            toldAt[size] = time;
            untoldAt[size] = NONE;
            size++;
            return size - 1;
        }

        boolean takeBack(int which, int time) {
            if (which < 0 || which >= size || untoldAt[which] != NONE) {
                return false;
            }
            untoldAt[which] = time;
            return true;
        }

        boolean counts(int which, int k) {
            return toldAt[which] <= k && (untoldAt[which] == NONE || untoldAt[which] > k);
        }

        int countAll(int k) {
            int many = 0;
            for (int i = 0; i < size; i++) {
                if (counts(i, k)) {
                    many++;
                }
            }
            return many;
        }

        int countAt(int bar, int k) {
            int many = 0;
            for (int i = 0; i < size; i++) {
                if (bars[i] == bar && counts(i, k)) {
                    many++;
                }
            }
            return many;
        }
    }

    /** Rules as steps for a stack: units lay a number on it, the others take theirs from it. */
    private static final class Rules {
        private static final int NUMBER = 0;
        private static final int DAY = 1;
        private static final int LEAST = 2;
        private static final int HOLD = 3;
        private static final int HEAD = 4;
        private static final int CUTS = 5;
        private static final int NOT = 6;
        private static final int TIMES = 7;
        private static final int PLUS = 8;
        private static final int MINUS = 9;
        private static final int BELOW = 10;
        private static final int ABOVE = 11;
        private static final int SAME = 12;
        private static final int AND = 13;
        private static final int OR = 14;
        /** A step is its kind and, in its lower bits, a number that fits four digits. */
        private static final int KIND_SHIFT = 16;
        private static final int NUMBER_MASK = 65535;

        private int count = 0;
        private int units = 0;
        private int size = 0;
        private final int[] planOf = new int[MOST_RULES];
        private final int[] endOf = new int[MOST_RULES];
        /** A step takes a byte of the text at least. */
        private final int[] steps = new int[MOST_RULE_BYTES];
        private final int[] stack = new int[MOST_UNITS];

        void empty() {
            count = 0;
            units = 0;
            size = 0;
        }

        void copyFrom(Rules other) {
            count = other.count;
            units = other.units;
            size = other.size;
            System.arraycopy(other.planOf, 0, planOf, 0, MOST_RULES);
            System.arraycopy(other.endOf, 0, endOf, 0, MOST_RULES);
            System.arraycopy(other.steps, 0, steps, 0, MOST_RULE_BYTES);
        }

        void addStep(int kind, int number) {
            if (size < steps.length) {
                steps[size] = kind << KIND_SHIFT | number;
                size++;
            }
        }

        void closeRule(int plan) {
            if (count < MOST_RULES) {
                planOf[count] = plan;
                endOf[count] = size;
                count++;
            }
        }

        /** The plan of the first rule that holds; NONE if none does. */
        int planFor(Mind mind, int[] cuts, int bars) {
            int from = 0;
            for (int i = 0; i < count; i++) {
                if (valueOf(from, endOf[i], mind, cuts, bars) != 0) {
                    return planOf[i];
                }
                from = endOf[i];
            }
            return NONE;
        }

        private int valueOf(int from, int to, Mind mind, int[] cuts, int bars) {
            int top = 0;
            for (int i = from; i < to; i++) {
                int kind = steps[i] >> KIND_SHIFT;
                int number = steps[i] & NUMBER_MASK;
                if (kind < NOT) {
                    if (top < stack.length) {
                        stack[top] = unitValue(kind, number, mind, cuts, bars);
                        top++;
                    }
                } else if (kind == NOT) {
                    if (top > 0) {
                        stack[top - 1] = stack[top - 1] == 0 ? 1 : 0;
                    }
                } else if (top > 1) {
                    top--;
                    stack[top - 1] = joined(kind, stack[top - 1], stack[top]);
                }
            }
            return top > 0 ? stack[top - 1] : 0;
        }

        private static int unitValue(int kind, int number, Mind mind, int[] cuts, int bars) {
            if (kind == NUMBER) {
                return number;
            }
            if (kind == DAY) {
                return mind.day;
            }
            if (kind == LEAST) {
                return leastHold(mind, bars);
            }
            if (number >= bars) {
                return 0;
            }
            if (kind == HOLD) {
                return mind.hold[number];
            }
            return kind == HEAD ? mind.head[number] : cuts[number];
        }

        private static int leastHold(Mind mind, int bars) {
            int least = bars > 0 ? mind.hold[0] : 0;
            for (int i = 1; i < bars; i++) {
                least = Math.min(least, mind.hold[i]);
            }
            return least;
        }

        private static int joined(int kind, int a, int b) {
            switch (kind) {
                case TIMES:
                    return a * b;
                case PLUS:
                    return a + b;
                case MINUS:
                    return a - b;
                case BELOW:
                    return a < b ? 1 : 0;
                case ABOVE:
                    return a > b ? 1 : 0;
                case SAME:
                    return a == b ? 1 : 0;
                case AND:
                    return a != 0 && b != 0 ? 1 : 0;
                default:
                    return a != 0 || b != 0 ? 1 : 0;
            }
        }
    }

    /** Reads the tape as rules into rules of its own, so that a fault leaves those there are. */
    private static final class RulesReader {
        private final Tape tape;
        private final Score score;
        private final Rules rules = new Rules();

        RulesReader(Tape tape, Score score) {
            this.tape = tape;
            this.score = score;
        }

        boolean readAll() {
            rules.empty();
            tape.open(";()<>=+-*");
            for (int i = 0; i <= MOST_RULES && tape.isFine() && !tape.isAtEnd(); i++) {
                readRule();
            }
            return tape.isFine();
        }

        private void readRule() {
            if (rules.count >= MOST_RULES) {
                tape.fail(MISPLACED);
                return;
            }
            if (!tape.takeWord(W_WHEN)) {
                return;
            }
            readEither(0);
            if (!tape.takeWord(W_DO) || !tape.atName()) {
                return;
            }
            int plan = score.planNamed(tape.letters);
            if (plan == NONE) {
                tape.fail(UNKNOWN_NAME);
                return;
            }
            tape.advance();
            tape.takeSign(';');
            rules.closeRule(plan);
        }

        /** Within: how many units ( e ) and ones behind a not are open around this. */
        private void readEither(int within) {
            readBoth(within);
            for (int i = 0; i < MOST_UNITS && tape.word == W_OR; i++) {
                tape.advance();
                readBoth(within);
                rules.addStep(Rules.OR, 0);
            }
        }

        private void readBoth(int within) {
            readOne(within);
            for (int i = 0; i < MOST_UNITS && tape.word == W_AND; i++) {
                tape.advance();
                readOne(within);
                rules.addStep(Rules.AND, 0);
            }
        }

        private void readOne(int within) {
            if (tape.word == W_NOT) {
                if (within > MOST_WITHIN) {
                    tape.fail(MISPLACED);
                    return;
                }
                tape.advance();
                readOne(within + 1);
                rules.addStep(Rules.NOT, 0);
                return;
            }
            readSum(within);
            int relation = tape.isSign('<') ? Rules.BELOW
                    : tape.isSign('>') ? Rules.ABOVE : tape.isSign('=') ? Rules.SAME : NONE;
            if (relation != NONE) {
                tape.advance();
                readSum(within);
                rules.addStep(relation, 0);
            }
        }

        private void readSum(int within) {
            readTerm(within);
            for (int i = 0; i < MOST_UNITS && (tape.isSign('+') || tape.isSign('-')); i++) {
                int kind = tape.isSign('+') ? Rules.PLUS : Rules.MINUS;
                tape.advance();
                readTerm(within);
                rules.addStep(kind, 0);
            }
        }

        private void readTerm(int within) {
            readUnit(within);
            for (int i = 0; i < MOST_UNITS && tape.isSign('*'); i++) {
                tape.advance();
                readUnit(within);
                rules.addStep(Rules.TIMES, 0);
            }
        }

        private void readUnit(int within) {
            if (rules.units >= MOST_UNITS) {
                tape.fail(MISPLACED);
                return;
            }
            rules.units++;
            if (tape.isNumber()) {
                rules.addStep(Rules.NUMBER, tape.number);
                tape.advance();
            } else if (tape.isSign('(')) {
                readInner(within);
            } else {
                readWordUnit();
            }
        }

        private void readInner(int within) {
            if (within > MOST_WITHIN) {
                tape.fail(MISPLACED);
                return;
            }
            tape.advance();
            readEither(within + 1);
            tape.takeSign(')');
        }

        private void readWordUnit() {
            int kind = kindOf(tape.word);
            if (kind == NONE) {
                tape.fail(MISPLACED);
                return;
            }
            int number = 0;
            if (kind == Rules.HOLD || kind == Rules.HEAD || kind == Rules.CUTS) {
                tape.advance();
                if (!tape.atNumber(0, score.bars - 1)) {
                    return;
                }
                number = tape.number;
            }
            rules.addStep(kind, number);
            tape.advance();
        }

        /** The step that lays what a word stands for; NONE if the word begins no unit. */
        private static int kindOf(int word) {
            switch (word) {
                case W_DAY:
                    return Rules.DAY;
                case W_LEAST:
                    return Rules.LEAST;
                case W_HOLD:
                    return Rules.HOLD;
                case W_HEAD:
                    return Rules.HEAD;
                case W_CUTS:
                    return Rules.CUTS;
                default:
                    return NONE;
            }
        }
    }
}
