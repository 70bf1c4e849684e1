import java.io.IOException;
import java.lang.reflect.Constructor;
import java.lang.reflect.Field;
import java.lang.reflect.Method;
import java.lang.reflect.Modifier;
import java.nio.charset.StandardCharsets;
import java.nio.file.Files;
import java.nio.file.Path;
import java.util.ArrayList;
import java.util.HashSet;
import java.util.List;
import java.util.Set;
import java.util.TreeSet;
import java.util.regex.Matcher;
import java.util.regex.Pattern;

/** The public face as the document has it, and the rules of the language that can be seen in the text. */
public final class FaceTest {
    private static final Check CHECK = new Check();

    public static void main(String[] args) throws IOException {
        face();
        language();
        manyObjects();
        CHECK.finish();
    }

    private static void face() throws IOException {
        String doc = Files.readString(Path.of("../shared/DOC.md"), StandardCharsets.UTF_8);
        Set<String> want = new TreeSet<>();
        Matcher m = Pattern.compile("(?m)^    public (int|long|boolean) (\\w+)\\(([^)]*)\\);").matcher(doc);
        while (m.find()) {
            want.add(m.group(1) + " " + m.group(2) + "(" + m.group(3).replaceAll(" \\w+(?=,|$)", "").replace(" ", "") + ")");
        }
        Set<String> got = new TreeSet<>();
        Set<String> names = new HashSet<>();
        for (Method method : ByHeart.class.getDeclaredMethods()) {
            if (Modifier.isPublic(method.getModifiers())) {
                List<String> types = new ArrayList<>();
                for (Class<?> type : method.getParameterTypes()) {
                    types.add(type.getName());
                }
                got.add(method.getReturnType() + " " + method.getName() + "(" + String.join(",", types) + ")");
                names.add(method.getName());
            }
        }
        CHECK.due("methods", want.size(), 41);
        CHECK.due("the methods of the face " + want + " are those there are " + got, want.equals(got), true);
        CHECK.due("final", Modifier.isFinal(ByHeart.class.getModifiers()), true);
        for (Method method : ByHeart.class.getDeclaredMethods()) {
            int how = method.getModifiers();
            CHECK.due(method + " is public or private", Modifier.isPublic(how) || Modifier.isPrivate(how), true);
            CHECK.due(method + " has no public one's name", Modifier.isPublic(how) || !names.contains(method.getName()), true);
        }
        for (Field field : ByHeart.class.getDeclaredFields()) {
            CHECK.due(field + " is private", Modifier.isPrivate(field.getModifiers()), !field.getName().equals("NONE"));
            CHECK.due(field + " is final if static", !Modifier.isStatic(field.getModifiers()) || Modifier.isFinal(field.getModifiers()), true);
        }
        Constructor<?>[] made = ByHeart.class.getDeclaredConstructors();
        CHECK.due("constructors", made.length, 1);
        CHECK.due("public", Modifier.isPublic(made[0].getModifiers()), true);
        CHECK.due("NONE", ByHeart.NONE, -1);
        for (Class<?> inside : ByHeart.class.getDeclaredClasses()) {
            CHECK.due(inside + " is static", Modifier.isStatic(inside.getModifiers()), true);
            for (Method method : inside.getDeclaredMethods()) {
                CHECK.due(method + " is not public", Modifier.isPublic(method.getModifiers()), false);
                CHECK.due(method + " has no public one's name", names.contains(method.getName()), false);
            }
            for (Field field : inside.getDeclaredFields()) {
                CHECK.due(field + " is final if static", !Modifier.isStatic(field.getModifiers()) || Modifier.isFinal(field.getModifiers()), true);
            }
        }
    }

    private static void language() throws IOException {
        String source = Files.readString(Path.of("src/main/java/ByHeart.java"), StandardCharsets.UTF_8);
        String code = source.replaceAll("(?s)/\\*.*?\\*/", "").replaceAll("//[^\n]*", "").replaceAll("\"[^\"]*\"", "\"\"");
        for (String word : "throws catch package var Object float double".split(" ")) {
            CHECK.due("no " + word, Pattern.compile("\\b" + word + "\\b").matcher(code).find(), false);
        }
        CHECK.due("one import", code.split("\\bimport\\b").length, 2);
        CHECK.due("signs of 127 at most", source.chars().allMatch(c -> c < 128), true);
        CHECK.due("no line above 150 signs", source.lines().allMatch(line -> line.length() <= 150), true);
        CHECK.due("methods of 60 lines at most", longestMethod(source.lines().toArray(String[]::new)) <= 60, true);
    }

    /** How many lines the longest block of a class or of a class inside takes, from its first line to its brace. */
    private static int longestMethod(String[] lines) {
        int longest = 0;
        for (int i = 0; i < lines.length; i++) {
            String indent = lines[i].replaceAll("\\S.*", "");
            boolean opens = lines[i].endsWith(") {") && (indent.length() == 4 || indent.length() == 8);
            for (int k = i + 1; opens && k < lines.length; k++) {
                if (lines[k].equals(indent + "}")) {
                    longest = Math.max(longest, k - i + 1);
                    opens = false;
                }
            }
        }
        return longest;
    }

    /** Every call with numbers far out, in an empty and in a full state: none may throw or fail to end. */
    private static void manyObjects() {
        int[] far = {Integer.MIN_VALUE, -1000001, -3, -2, -1, 0, 1, 2, 23, 24, 40, 1000, 1001, 1000000, Integer.MAX_VALUE};
        ByHeart[] states = {new ByHeart(), Check.with("heap a x y;heap b x;door 1;plan p from 0 to 1 times 1 slow 1;"), full()};
        for (ByHeart x : states) {
            int before = x.about(0);
            for (int a : far) {
                for (int b : far) {
                    callAll(x, a, b);
                }
            }
            CHECK.due("the bars are there still", x.about(0), before);
        }
    }

    /** As much of everything as there can be. */
    private static ByHeart full() {
        StringBuilder s = new StringBuilder();
        for (int i = 0; i < 8; i++) {
            s.append("heap ").append((char) ('a' + i)).append(" x x ").append(i % 2 == 0 ? "x;" : "y;");
        }
        for (int i = 0; i < 24; i++) {
            s.append("door ").append(i).append(";mark ").append(i).append(";");
        }
        for (int i = 0; i < 4; i++) {
            s.append("part ").append((char) ('a' + i)).append(" from a to h;");
        }
        for (int i = 0; i < 6; i++) {
            s.append("plan ").append((char) ('p' + i)).append(" from 0 to 23 times 20 slow 20;");
        }
        ByHeart x = Check.with(s.toString());
        for (int i = 0; i < 40; i++) {
            x.diary(999, 23, 23);
            x.paper(999, 23, false);
        }
        String six = "when ((((((cuts 23)))))) and not not not not not not not hold 23 = least do p;" + "when 0 do q;".repeat(5);
        CHECK.due("six rules", Check.tellRules(x, six), 6);
        String wide = "when 1 * (1" + " - day".repeat(32) + ") do p;" + "when 1 do q;".repeat(5);
        CHECK.due("40 units", Check.tellRules(x, wide) == 6 && x.about(11) == 40, true);
        String deep = "when not 1 < (1 * (1 * (1 * (1 * (1 * (1 + 1 and 2)))))) or 0 do p;";
        CHECK.due("deep ones", Check.tellRules(x, deep), 1);
        x.slow(0, 23);
        return x;
    }

    private static void callAll(ByHeart x, int a, int b) {
        x.end(a);
        x.fault(a);
        x.bar(a, b);
        x.part(a, b);
        x.set(a, b, true);
        x.set(a, b, false);
        x.alike(a, b);
        x.fork(a);
        x.behind(a, b);
        x.saved(a);
        x.play(a, b);
        x.slow(a, b);
        x.latest(a);
        x.days(a);
        x.through(a, b, a, b);
        x.through(0, a, b, 0);
        x.put(a, b, -1, 0, 0);
        x.put(1, 1, a, b, 1);
        x.plans(a, b);
        x.plan(a);
        x.practise(a);
        x.reach(a);
        x.finger(a);
        x.diary(a, b, a);
        x.diary(a, 0, b);
        x.paper(a, b, true);
        x.untell(a > 0, b);
        x.later(a);
        x.cuts(a, b);
        x.diaries(a, b);
        x.luck(a, b);
        x.hang(a, b);
        x.laws(a, b);
        x.hidden(a);
        x.months(a, b);
        x.back(a, b);
        x.seed(a);
        x.image(a);
        x.again(b);
        x.about(a);
    }
}
