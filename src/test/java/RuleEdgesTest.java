/** Where ==== 5 and the promises 22 to 25 name an edge: bytes, rules, units, what is within others, goals, days. */
public final class RuleEdgesTest {
    private static final Check CHECK = new Check();
    private static final String OWN = "heap part from to door mark law gain fade cross weak save ear plan times slow "
            + "when do day hold head cuts least and or not";
    private static final String PIECE = "heap a x y;law gain 500 fade 100 cross 0 weak 500 save 4 ear 0;"
            + "plan q from 0 to 1 times 1 slow 0;plan r from 1 to 1 times 2 slow 1;";

    public static void main(String[] args) {
        mostBytes();
        behindFaults();
        noneAtFirst();
        everyByte();
        rulesCutOff();
        ownWords();
        mostRules();
        mostUnits();
        unitsCounted();
        within();
        bars();
        namesOfPlans();
        grammar();
        leastFaultAtAPlace();
        relations();
        wrapping();
        unitValues();
        cutsNow();
        firstRule();
        practise();
        practiseNearTheLastDay();
        reachGoals();
        reachDays();
        CHECK.finish();
    }

    private static void ruled(int fault, String text) {
        CHECK.dueFault(Check.with(PIECE), false, fault, text);
    }

    private static void due(String call, long got, long want) {
        CHECK.due(call, got, want);
    }

    private static ByHeart with(String rules) {
        ByHeart x = Check.with(PIECE);
        if (Check.tellRules(x, rules) < 0) {
            throw new IllegalStateException("a fault in: " + rules);
        }
        return x;
    }

    // ---- promise 22: the text ----

    private static void mostBytes() {
        String rules = "when 1 do q;" + " ".repeat(576) + "when 1 do r;";
        ByHeart x = with("when 0 do r;");
        due("22: 600 bytes", Check.tellRules(x, rules), 2);
        due("22: the tape is empty then", x.about(8), 0);
        due("5: no fault", x.fault(0), 0);
        Check.type(x, rules.replace("q;", "q; "));
        due("22: 601 bytes are more", x.rules(), -2);
        due("22: the tape stays", x.about(8), 601);
        due("22: those there are stay", x.about(10), 2);
        due("22: their units stay", x.about(11), 2);
        due("5: the fault of the latest that was not -2", x.fault(0), 0);
        due("22: and once more", x.rules(), -2);
        due("3: the first 600 of them", x.end(600), 600);
        due("22: the end is missing", x.rules(), -1);
        due("5: at the end", x.fault(1), 600);
        Check.type(x, "?" + " ".repeat(600));
        due("22: a fault in 601 bytes is not looked for", x.rules(), -2);
        due("5: its place stays", x.fault(1), 600);
        due("4: as a piece it is", x.piece(), -1);
        due("5: of the piece", x.fault(0) * 1000 + x.fault(1), 1000);
        Check.type(x, " ".repeat(1500));
        due("22: a full tape", x.rules(), -2);
        due("22: a full tape stays", x.about(8), 1500);
    }

    private static void behindFaults() {
        ByHeart x = with("when 1 do r;when day do q;");
        due("22: a fault", Check.tellRules(x, "when 1 do q;when 1 do z;"), -1);
        due("22: those there are stay", x.about(10), 2);
        due("22: their units stay", x.about(11), 2);
        due("25: they tell as before", x.rule(), 1);
        due("22: the tape is empty then", x.about(8), 0);
        due("22: none is fine", x.rules(), 0);
        due("22: none", x.about(10), 0);
        due("25: none tells", x.rule(), -1);
    }

    private static void noneAtFirst() {
        ByHeart x = new ByHeart();
        due("==== 5: none at first", x.about(10), 0);
        due("22: none without a piece", x.rules(), 0);
        due("22: of plans, there are none", Check.tellRules(x, "when 1 do q;"), -1);
        due("5: 5", x.fault(0), 5);
        due("5: at the name", x.fault(1), 10);
        due("22: no bars either", Check.tellRules(x, "when hold 0 do q;"), -1);
        due("5: 4", x.fault(0), 4);
        due("5: at the number", x.fault(1), 10);
        x = with("when 1 do q;");
        due("25: told", x.rule(), 0);
        Check.tell(x, PIECE);
        due("==== 5: none behind another piece", x.about(10), 0);
        due("==== 5: no units either", x.about(11), 0);
        due("25: none tells", x.rule(), -1);
        due("23: a day without a key", x.practise(1), 0);
    }

    // ---- tokens ----

    private static void everyByte() {
        for (int c = 0; c < 256; c++) {
            boolean blank = c == 32 || c == 10;
            boolean token = c >= 'a' && c <= 'z' || c >= '0' && c <= '9' || ";()<>=+-*".indexOf(c) >= 0;
            ByHeart x = Check.with(PIECE);
            Check.type(x, "when 1 do q; " + (char) c);
            due("==== 5: byte " + c, x.rules(), blank ? 1 : -1);
            due("==== 5: the fault of byte " + c, x.fault(0), blank ? 0 : token ? 2 : 1);
            due("==== 5: the place of byte " + c, x.fault(1), blank ? -1 : 13);
            // A piece has the sign ; alone.
            if (!blank && ";()<>=+-*".indexOf(c) >= 0) {
                Check.type(x, "heap a x" + (char) c);
                due("Terms: byte " + c, x.piece(), c == ';' ? 1 : -1);
                due("Terms: the fault of byte " + c, x.fault(0), c == ';' ? 0 : 1);
            }
        }
        ruled(0, "when 9999 do q;");
        ruled(0, "when 0009 do q;");
        ruled(1, "when ^10000 do q;");
        ruled(1, "when ^00009 do q;");
        ruled(1, "when ^9do q;");
        ruled(1, "when hold ^0do q;");
        ruled(1, "when hold ^0and 1 do q;");
        ruled(2, "when ^holds 0 do q;");
        ruled(1, "when 1 do ^abcdefghi;");
        ruled(5, "when 1 do ^abcdefgh;");
        ruled(0, "when(hold0<head1+1*cuts0)=1 do q;");
        ruled(0, "when\nhold\n0\n<\n1\ndo\nq\n;\n");
        ruled(2, "when hold 0 < ^< 1 do q;");
        ruled(2, "when 1 + ^+ 1 do q;");
    }

    // ---- rules ----

    private static final String RULE = "when not hold 0 + 1 < ( day - 2 ) * least and head 1 > 3 or cuts 0 = 4 do q ;";

    /** The text, ended behind each token but the last, is at fault where it ends. */
    private static void rulesCutOff() {
        StringBuilder part = new StringBuilder();
        for (String token : RULE.split(" ")) {
            if (!token.equals(";")) {
                part.append(token);
                ruled(2, part + "^");
                ruled(2, part + "  ^");
                ruled(2, "when 1 do r;" + part + "^");
                part.append(' ');
            }
        }
        ruled(0, RULE);
    }

    /** None of the words of a piece, and none of the rules' own as a name, may stand anywhere in rules. */
    private static void ownWords() {
        String[] tokens = RULE.split(" ");
        for (String word : OWN.split(" ")) {
            ruled(2, "when 1 do ^" + word + ";");
        }
        for (String word : "heap part from to door mark law gain fade cross weak save ear plan times slow".split(" ")) {
            for (int at = 0; at < tokens.length; at++) {
                StringBuilder text = new StringBuilder();
                for (int i = 0; i < tokens.length; i++) {
                    text.append(i == at ? "^" + word : tokens[i]).append(' ');
                }
                ruled(2, text.toString());
            }
        }
        ruled(2, "when ^when 1 do q;");
        ruled(2, "when 1 ^when 1 do q;");
        ruled(2, "when 1 do q;^do q;");
        ruled(2, "when 1 do q;^q");
        ruled(2, "when 1 do q;^;");
        ruled(2, "^1");
        ruled(2, "^(");
    }

    private static void mostRules() {
        String six = "when 1 do q;".repeat(6);
        ByHeart x = with(six);
        due("==== 5: 6 rules", x.about(10), 6);
        ruled(2, six + "^when 1 do q;");
        ruled(2, six + " ^when");
        ruled(2, six + " ^when ?");
        ruled(2, six + "\n^x");
        ruled(1, six + "^?");
        ruled(1, six + "^whenwhenw");
        ruled(2, "when 0 do q;".repeat(5) + "when 1 do q ^when 1 do q;");
        x = with("when 0 do q;".repeat(5) + "when 1 do r;");
        due("25: the sixth", x.rule(), 1);
        x = with("");
        due("==== 5: none", x.about(10), 0);
    }

    private static void mostUnits() {
        String forty = "when 1" + "+1".repeat(39);
        due("==== 5: 40 units", with(forty + " do q;").about(11), 40);
        ruled(2, forty + "+^1 do q;");
        ruled(2, forty + "*^1 do q;");
        ruled(2, forty + " < ^1 do q;");
        ruled(2, forty + " and ^1 do q;");
        ruled(2, forty + " or ^1 do q;");
        ruled(2, forty + " and not ^1 do q;");
        ruled(2, forty + "+^(1) do q;");
        ruled(2, forty + "+^hold 0 do q;");
        ruled(2, forty + "+^hold 2 do q;");
        ruled(2, forty + "+^day do q;");
        ruled(2, forty + " do q;when ^1 do q;");
        ruled(2, forty + " do q;when not not ^1 do q;");
        // In all: 6 rules, 40 units among them.
        String five = "when day+1+1+1+1+1+1 do q;".repeat(5);
        due("==== 5: 40 units in six rules", with(five + "when least*2*3*4*5 do r;").about(11), 40);
        ruled(2, five + "when least*2*3*4*5*^6 do r;");
        // Those within ( ) count, as does ( e ) itself, at its first token.
        due("==== 5: ( e ) is a unit", with("when (1" + "+1".repeat(38) + ") do q;").about(11), 40);
        ruled(2, "when (1" + "+1".repeat(38) + "+^1) do q;");
        ruled(2, "when (1" + "+1".repeat(38) + ")+^1 do q;");
        String sixPairs = "(((((((1)))))))+".repeat(5);
        due("==== 5: 5 times 7 ( e ) and what is in them", with("when " + sixPairs.substring(0, 79) + " do q;").about(11), 40);
        ruled(2, "when " + sixPairs + "^(1) do q;");
        // N behind hold, head, cuts is none of its own; signs and words between units are none.
        due("==== 5: hold N is one", with("when hold 0 + head 1 * cuts 0 > day - least do q;").about(11), 5);
        due("==== 5: not is none", with("when not not not 1 and not 1 do q;").about(11), 2);
    }

    private static void unitsCounted() {
        ByHeart x = with("when 1 do q;");
        due("42: one unit", x.about(11), 1);
        Check.tellRules(x, "when ((1)) do q;when 1 do r;");
        due("42: four", x.about(11), 4);
        Check.tellRules(x, "when 1+1+1+1+1+1+1+1 do q;?");
        due("42: those of a text at fault do not count", x.about(11), 4);
        Check.tellRules(x, "");
        due("42: none", x.about(11), 0);
    }

    private static String in(int open, String inner) {
        return "(".repeat(open) + inner + ")".repeat(open);
    }

    private static void within() {
        // Seven ( e ), the innermost within six others.
        ruled(0, "when " + in(7, "1") + " do q;");
        ruled(2, "when " + "(".repeat(7) + "^(1" + ")".repeat(8) + " do q;");
        ruled(0, "when " + "not ".repeat(7) + "1 do q;");
        ruled(2, "when " + "not ".repeat(7) + "^not 1 do q;");
        ruled(2, "when " + "not ".repeat(7) + "^not ? do q;");
        ruled(2, "when " + "(".repeat(7) + "^(?");
        // Both sorts together.
        for (int open = 0; open <= 7; open++) {
            String ahead = "when " + "not(".repeat(open / 2) + (open % 2 == 1 ? "(" : "");
            int left = 7 - open;
            String closed = ")".repeat(open / 2 + open % 2);
            if (open % 2 == 0) {
                ruled(0, ahead + "not ".repeat(left) + "1" + closed + " do q;");
                ruled(2, ahead + "not ".repeat(left) + "^(1)" + closed + " do q;");
                ruled(2, ahead + "not ".repeat(left) + "^not 1" + closed + " do q;");
            } else {
                ruled(0, ahead + in(left, "1") + closed + " do q;");
                ruled(2, ahead + "(".repeat(left) + "^(1)" + ")".repeat(left) + closed + " do q;");
                ruled(2, ahead + "(".repeat(left) + "^not 1" + ")".repeat(left) + closed + " do q;");
            }
        }
        // A unit that is no ( e ) may stand within seven; beside another one nothing is within it.
        ruled(0, "when " + in(7, "hold 0 + 1 < 2 and day or least") + " do q;");
        ruled(0, "when " + in(7, "1") + "*" + in(7, "1") + " do q;");
        ruled(0, "when " + in(7, "1") + " and " + in(7, "1") + " do q;when " + in(7, "1") + " do r;");
        ruled(0, "when " + "not ".repeat(7) + "1 and " + "not ".repeat(7) + "1 or " + in(7, "1") + " do q;");
        ruled(0, "when (" + "not ".repeat(6) + "1) and not " + in(6, "1") + " do q;");
        ruled(2, "when (" + "not ".repeat(6) + "1 and " + "not ".repeat(6) + "^not 1) do q;");
        ruled(2, "when not 1 < " + "(".repeat(6) + "^(1)" + ")".repeat(6) + " do q;");
    }

    private static void bars() {
        for (String word : new String[] {"hold", "head", "cuts"}) {
            ruled(0, "when " + word + " 0 do q;");
            ruled(0, "when " + word + " 1 do q;");
            ruled(0, "when " + word + " 0001 do q;");
            ruled(4, "when " + word + " ^2 do q;");
            ruled(4, "when " + word + " ^9999 do q;");
            ruled(1, "when " + word + " ^00001 do q;");
            ruled(2, "when " + word + " ^x do q;");
            ruled(2, "when " + word + " ^(0) do q;");
            ruled(2, "when " + word + " ^day do q;");
        }
        // N that is a unit is no bar.
        ruled(0, "when 9999 do q;");
        ByHeart x = Check.with("heap a" + " x".repeat(24) + ";plan p from 0 to 0 times 0 slow 0;");
        due("==== 5: the last of 24 bars", Check.tellRules(x, "when head 23 do p;"), 1);
        due("==== 5: none behind it", Check.tellRules(x, "when head 24 do p;"), -1);
    }

    private static void namesOfPlans() {
        ruled(5, "when 1 do ^a;");
        ruled(5, "when 1 do ^x;");
        ruled(5, "when 1 do ^qq;");
        ruled(2, "when 1 do ^0;");
        ruled(2, "when 1 do ^;");
        ruled(2, "when 1 do q^");
        ruled(2, "when 1 do q ^q;");
        ByHeart x = Check.with("heap a x;" + plans(6));
        due("==== 5: the last of six plans", Check.tellRules(x, "when 1 do f;"), 1);
        due("25: its number", x.rule(), 5);
        due("==== 5: no seventh", Check.tellRules(x, "when 1 do g;"), -1);
        due("25: as before", x.rule(), 5);
    }

    private static String plans(int many) {
        StringBuilder s = new StringBuilder();
        for (int i = 0; i < many; i++) {
            s.append("plan ").append((char) ('a' + i)).append(" from 0 to 0 times 0 slow 0;");
        }
        return s.toString();
    }

    private static void grammar() {
        ruled(2, "when 1 < 2 ^< 3 do q;");
        ruled(2, "when 1 = 2 ^> 3 do q;");
        ruled(0, "when (1 < 2) < 3 do q;");
        ruled(2, "when 1 + ^not 1 do q;");
        ruled(2, "when 1 < ^not 1 do q;");
        ruled(0, "when 1 < (not 1) do q;");
        ruled(2, "when ^- 1 do q;");
        ruled(2, "when ^+ 1 do q;");
        ruled(2, "when 1 and ^and 1 do q;");
        ruled(2, "when 1 or ^do q;");
        ruled(2, "when not ^do q;");
        ruled(2, "when (^) do q;");
        ruled(2, "when (1 ^; do q;");
        ruled(2, "when 1 ^) do q;");
        ruled(2, "when 1 ^( 1 ) do q;");
        ruled(2, "when 1 ^1 do q;");
        ruled(2, "when day ^day do q;");
        ruled(2, "when ^do q;");
    }

    private static void leastFaultAtAPlace() {
        String forty = "when 1" + "+1".repeat(39);
        ruled(1, forty + "+^? do q;");
        ruled(1, forty + "+^12345 do q;");
        ruled(1, "when " + "(".repeat(7) + "^?");
        ruled(1, "when hold ^9z");
        ruled(1, "when 1 do ^whenwhenw");
        ruled(2, "when 1 do ^heap;");
        ruled(4, "when hold ^2 ?");
        ruled(5, "when 1 do ^s ?");
        ruled(4, "when hold ^2 do z;");
        ruled(2, "when 1 do q ^1 ?");
    }

    // ---- what e is ----

    /** Whether rules tell of e that it is a number (negative ones are told less 0). */
    private static void value(ByHeart x, String e, int want) {
        String number = want < 0 ? "0 - " + -want : "" + want;
        Check.tellRules(x, "when (" + e + ") = " + number + " do r;when 1 do q;");
        due("==== 5: " + e + " is " + want, x.rule(), 1);
    }

    private static void relations() {
        ByHeart x = Check.with(PIECE);
        int[][] cases = {{1, 2, 1, 0, 0}, {2, 2, 0, 0, 1}, {3, 2, 0, 1, 0}};
        for (int[] c : cases) {
            value(x, c[0] + " < " + c[1], c[2]);
            value(x, c[0] + " > " + c[1], c[3]);
            value(x, c[0] + " = " + c[1], c[4]);
        }
        value(x, "(0 - 1) < 0", 1);
        value(x, "0 > (0 - 1)", 1);
        // Of what is not 0: below it, too.
        value(x, "(0 - 1) and 2", 1);
        value(x, "2 and 0", 0);
        value(x, "0 or (0 - 1)", 1);
        value(x, "0 or 0", 0);
        value(x, "not (0 - 1)", 0);
        value(x, "not 0", 1);
        value(x, "not not 7", 1);
        value(x, "(0 - 1) * 0", 0);
        due("==== 5: e below 0 is not 0", Check.tellRules(x, "when 0 - 1 do r;") + x.rule(), 2);
        due("==== 5: e that is 0", Check.tellRules(x, "when 1 - 1 do r;") + x.rule(), 0);
    }

    private static void wrapping() {
        ByHeart x = Check.with(PIECE);
        // 4096 * 4096 * 128 is 2147483648, one more than there can be: -2147483648; less 1 it is 2147483647.
        String most = "(4096 * 4096 * 128 - 1)";
        value(x, "4096 * 4096 * 128 < 0", 1);
        value(x, most + " > 0", 1);
        value(x, most + " + 1 < 0", 1);
        value(x, "0 - " + most + " - 1 < 0", 1);
        value(x, "0 - " + most + " - 2 > 0", 1);
        value(x, "0 - " + most + " - 2 = " + most, 1);
        value(x, "4096 * 4096 * 256", 0);
        value(x, "not 4096 * 4096 * 256", 1);
        value(x, most + " * 2", -2);
        // 9999 * 9999 * 9999 is 999700029999, 232 * 4294967296 less than that by 3267617327, wrapped to -1027349969.
        value(x, "9999 * 9999 * 9999 + 1027 * 1000 * 1000 + 349 * 1000 + 969", 0);
        // Less, not the sign of the difference.
        value(x, most + " < 0 - 5", 0);
        value(x, "0 - 5 < " + most, 1);
        value(x, most + " > 0 - 5", 1);
    }

    private static void unitValues() {
        ByHeart x = Check.with(PIECE);
        value(x, "day", 0);
        value(x, "least", 0);
        value(x, "hold 0", 0);
        value(x, "head 1", 0);
        x.slow(0, 0);
        x.finger(1);
        value(x, "hold 0", 250);
        value(x, "head 0", 500);
        value(x, "least", 0);
        x.play(1, 1);
        x.slow(1, 1);
        x.slow(1, 1);
        // The least of both, the first or the second.
        value(x, "least", 250);
        x.finger(0);
        value(x, "least", 0);
        value(x, "head 0", 500);
        for (int i = 0; i < 100; i++) {
            x.days(1000);
        }
        value(x, "day - 9999 * 10", 10);
    }

    private static void cutsNow() {
        ByHeart x = Check.with(PIECE);
        value(x, "cuts 1", 0);
        x.diary(5, 1, 1);
        x.diary(5, 1, 1);
        x.diary(5, 0, 1);
        value(x, "cuts 1", 2);
        value(x, "cuts 0", 1);
        x.later(3);
        x.untell(false, 1);
        value(x, "cuts 1", 1);
        x.diary(0, 0, 0);
        value(x, "cuts 0", 2);
        Check.tellRules(x, "when cuts 1 = 1 do q;");
        due("24: by cuts as known now", x.reach(500000), 1);
        due("23: by cuts as known now", x.practise(2), 2);
        // Each of the three asks what is known now for itself.
        x = with("when cuts 1 = 1 do q;");
        x.diary(0, 1, 1);
        due("24: told since then", x.reach(500000), 1);
        x.untell(false, 0);
        due("24: untold since then", x.reach(500000), -1);
        x.diary(0, 1, 1);
        due("23: told since then", x.practise(1), 1);
        x.untell(false, 1);
        due("23: untold since then", x.practise(1), 0);
        x.diary(0, 1, 1);
        due("25: told since then", x.rule(), 0);
    }

    private static void firstRule() {
        ByHeart x = with("when day = 0 do r;when day < 2 do q;");
        due("25: the first of both", x.rule(), 1);
        x.days(1);
        due("25: the second", x.rule(), 0);
        x.days(1);
        due("25: none does", x.rule(), -1);
        due("25: without rules", with("").rule(), -1);
        due("25: without a piece", new ByHeart().rule(), -1);
        // As the day begins, not as it ends: bar 0 is held by 500 behind its passes, 450 behind the DAY.
        x = with("when hold 0 = 0 do q;");
        due("==== 5: as it begins", x.practise(1), 1);
        due("23: a plan's day", x.bar(0, 0), 450);
        due("25: no more", x.rule(), -1);
    }

    // ---- promises 23 and 24 ----

    private static void practise() {
        ByHeart x = with("when day > 1 do q;");
        due("23: none", x.practise(0), 0);
        due("23: the day stays", x.about(7), 0);
        int[] refused = {-1, 61, Integer.MIN_VALUE, Integer.MAX_VALUE};
        for (int n : refused) {
            due("23: practise(" + n + ")", x.practise(n), -1);
            due("23: practise(" + n + ") does nothing", x.about(7) + x.bar(0, 0), 0);
        }
        due("23: 60, on two of them none", x.practise(60), 58);
        due("23: the day", x.about(7), 60);
        due("23: one", x.practise(1), 1);
        due("23: without a piece", new ByHeart().practise(60), 0);
    }

    private static void practiseNearTheLastDay() {
        ByHeart x = with("when 1 do q;");
        for (int i = 0; i < 99; i++) {
            x.days(1000);
        }
        x.days(941);
        due("23: above 100,000", x.practise(60), -1);
        due("23: nothing is done", x.about(7) + x.bar(0, 0), 99941);
        due("23: to 100,000", x.practise(59), 59);
        due("23: the last day", x.about(7), 100000);
        int hold = x.bar(0, 0);
        due("23: above it", x.practise(1), -1);
        due("23: nothing is done", x.bar(0, 0), hold);
        due("23: none", x.practise(0), 0);
        due("24: what would be needs no day", x.reach(0), 0);
    }

    private static void reachGoals() {
        ByHeart x = with("when 1 do q;");
        due("24: goal 0", x.reach(0), 0);
        // 500 of 1000 go on at each of both: it has 250,000.
        due("24: just that many", x.reach(250000), 0);
        due("24: one more", x.reach(250001), 1);
        due("24: all is too much", x.reach(1000000), -1);
        int[] refused = {-1, 1000001, Integer.MIN_VALUE, Integer.MAX_VALUE};
        for (int goal : refused) {
            due("24: reach(" + goal + ")", x.reach(goal), -1);
        }
        due("24: nothing is changed", x.about(7) + x.bar(0, 0) + x.about(9), 1);
        ByHeart sure = Check.with("heap a x;law gain 1 fade 0 cross 0 weak 0 save 0 ear 0;");
        due("24: all, and it has", sure.reach(1000000), 0);
        due("24: without bars", new ByHeart().reach(0), -1);
        ByHeart none = Check.with("heap a x;law gain 1 fade 0 cross 0 weak 1000 save 0 ear 0;");
        due("24: nothing gets there", none.reach(1), -1);
        due("24: 0 it has", none.reach(0), 0);
    }

    private static void reachDays() {
        // Only the day that begins as 59 brings what is asked: it is the 60th.
        due("24: 60 days", with("when day = 59 do q;").reach(500000), 60);
        due("24: 61 days are more than 60", with("when day = 60 do q;").reach(500000), -1);
        // Held 450 of both then: 725 of 1000 go on at each, 525,625 of a million.
        due("24: just that many by the 60th", with("when day = 59 do q;").reach(525625), 60);
        due("24: one more", with("when day = 59 do q;").reach(525626), -1);
        due("24: 59", with("when day = 58 do q;").reach(500000), 59);
        ByHeart x = with("when day = 69 do q;");
        x.days(10);
        due("24: 60 from now", x.reach(500000), 60);
        x = with("when day = 70 do q;");
        x.days(10);
        due("24: 61 from now", x.reach(500000), -1);
        due("24: without rules what fades never comes", with("").reach(250001), -1);
    }
}
