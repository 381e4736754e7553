import java.io.IOException;
import java.lang.reflect.Constructor;
import java.lang.reflect.Field;
import java.lang.reflect.Method;
import java.lang.reflect.Modifier;
import java.nio.file.Files;
import java.nio.file.Path;
import java.util.ArrayList;
import java.util.Arrays;
import java.util.List;
import java.util.Set;
import java.util.TreeSet;
import java.util.regex.Matcher;
import java.util.regex.Pattern;

/** What of LANGUAGE.md can be seen from the source and the compiled class, and how much room calls take. */
public final class RulesTest {
    private static final Path SOURCE = Path.of("src/main/java/ScissorsTable.java");
    private static final String[] FACE = {
        "int feed(int,int,int,int,int)", "boolean end(int)", "int fault()", "int text()", "int count(int)",
        "int tet(int,int)", "int corner(int,int,int)", "int edge(int,int,int)", "int prime(int,int,int,int)",
        "int solid(int,int)", "int term(int,int,int)", "int much(int,int,int)", "int alike(int,int)",
        "int unlike(int,int,int)", "int lacks(int,int)", "int where(int,int,int,int)", "int cut(int,int,int,int)",
        "int join(int,int)", "int turn(int,int)", "int move(int,int,int,int)", "int give(int,int)", "int drop(int)",
        "int points(int)", "int fairest(int,int)", "int cutsTo(int,int)", "int pick(int,int)", "int unpick()",
        "int rank()", "int relation(int)", "int rankOf(int)", "int relationOf(int,int)", "long multiples(int,int,int)",
        "int plan(int,int,int,int,int,int)", "int step(int,int)", "int side(int,int)", "int cube(int,int,int,int,int)",
        "int pieces(int)", "int most(int)"
    };
    private static int wrong;

    public static void main(String[] args) throws IOException {
        String source = Files.readString(SOURCE);
        String code = withoutComments(source);
        checkWords(code);
        checkShape(code);
        checkFace();
        checkClasses();
        checkRoom();
        System.out.println("RulesTest: " + wrong + " wrong");
        if (wrong != 0) {
            System.exit(1);
        }
    }

    private static void hold(boolean holds, String rule) {
        if (!holds) {
            wrong++;
            System.out.println("broken: " + rule);
        }
    }

    private static String withoutComments(String source) {
        return source.replaceAll("(?s)/\\*.*?\\*/", "").replaceAll("//[^\n]*", "").replaceAll("\"[^\"\n]*\"", "\"\"");
    }

    private static void checkWords(String code) {
        for (String word : new String[] {"->", "::", "Exact", "while", "try", "catch", "finally", "synchronized", "assert",
            "instanceof", "static {", "equals", "hashCode", "toString", "System.out", "Random", "nanoTime", "Thread", "List", "Object", "double", "float"}) {
            boolean plain = word.matches("[a-z]+");
            hold(plain ? !code.matches("(?s).*\\b" + word + "\\b.*") : !code.contains(word), "no " + word);
        }
        Set<String> imports = new TreeSet<>();
        Matcher matcher = Pattern.compile("import ([^;]+);").matcher(code);
        while (matcher.find()) {
            imports.add(matcher.group(1));
        }
        hold(imports.equals(Set.of("java.util.Arrays", "java.util.NoSuchElementException")), "imports " + imports);
        hold(!code.contains("package "), "no package line");
        hold(code.split("\\bthrow\\b", -1).length == 2, "one throw statement");
        matcher = Pattern.compile("\\b(Math|Integer|Long|System|Arrays|String|StringBuilder)\\.(\\w+)").matcher(code);
        Set<String> allowed = Set.of("Math.abs", "Math.min", "Math.max", "Math.floorDiv", "Math.floorMod", "Integer.bitCount",
            "Integer.signum", "System.arraycopy", "Arrays.copyOf", "Arrays.copyOfRange", "Arrays.fill");
        while (matcher.find()) {
            hold(allowed.contains(matcher.group()), "library: " + matcher.group());
        }
    }

    /** The methods' parameters and lengths; every for loop has a condition. */
    private static void checkShape(String code) {
        String[] lines = code.split("\n", -1);
        Pattern head = Pattern.compile("^ +(?:(?:public|private|static|final) )*[\\w\\[\\]]+ \\w+\\(([^)]*)\\)[^;]*\\{$");
        for (int k = 0; k < lines.length; k++) {
            Matcher matcher = head.matcher(lines[k]);
            if (matcher.matches() && !lines[k].contains(" return ") && !lines[k].contains(" else ") && !lines[k].contains(" new ")) {
                int indent = lines[k].length() - lines[k].stripLeading().length();
                int end = k;
                while (end < lines.length && !lines[end].equals(" ".repeat(indent) + "}")) {
                    end++;
                }
                hold(end - k < 60, "short methods: " + lines[k].strip() + " has " + (end - k) + " lines");
                hold(matcher.group(1).split(",").length <= 7, "seven parameters: " + lines[k].strip());
            }
            hold(lines[k].length() <= 140, "line " + (k + 1) + " has " + lines[k].length() + " signs");
        }
        Matcher loops = Pattern.compile("for \\(([^;]*);([^;]*);").matcher(code);
        while (loops.find()) {
            hold(loops.group(2).contains("<") || loops.group(2).contains(">"), "a bound: for (" + loops.group(1) + ";" + loops.group(2));
        }
        hold(code.split("class ").length - 1 <= 12, "twelve classes");
    }

    private static String named(Method method) {
        StringBuilder text = new StringBuilder(method.getReturnType().getName()).append(' ').append(method.getName()).append('(');
        for (Class<?> type : method.getParameterTypes()) {
            text.append(text.charAt(text.length() - 1) == '(' ? "" : ",").append(type.getName());
        }
        return text.append(')').toString();
    }

    private static void checkFace() {
        Set<String> face = new TreeSet<>();
        for (Method method : ScissorsTable.class.getDeclaredMethods()) {
            if (!Modifier.isPrivate(method.getModifiers()) && !method.isSynthetic()) {
                hold(Modifier.isPublic(method.getModifiers()) && !Modifier.isStatic(method.getModifiers()), "public: " + method);
                face.add(named(method));
            }
        }
        hold(face.equals(new TreeSet<>(Arrays.asList(FACE))), "the face: " + face);
        Set<String> constants = new TreeSet<>();
        for (Field field : ScissorsTable.class.getDeclaredFields()) {
            if (!Modifier.isPrivate(field.getModifiers())) {
                constants.add(Modifier.toString(field.getModifiers()) + " " + field.getType() + " " + field.getName());
            }
        }
        hold(constants.equals(Set.of("public static final int NONE", "public static final int HIDDEN")), "constants: " + constants);
        Constructor<?>[] constructors = ScissorsTable.class.getDeclaredConstructors();
        hold(constructors.length == 1 && Modifier.isPublic(constructors[0].getModifiers()) && constructors[0].getParameterCount() == 0, "one constructor");
        hold(ScissorsTable.class.getModifiers() == (Modifier.PUBLIC | Modifier.FINAL), "public and final");
    }

    private static void checkClasses() {
        Set<String> names = new TreeSet<>();
        for (String method : FACE) {
            names.add(method.substring(method.indexOf(' ') + 1, method.indexOf('(')));
        }
        List<Class<?>> all = new ArrayList<>(Arrays.asList(ScissorsTable.class.getDeclaredClasses()));
        for (Class<?> inside : all) {
            hold(Modifier.isStatic(inside.getModifiers()) && !Modifier.isPublic(inside.getModifiers()), "static, not public: " + inside);
            for (Method method : inside.getDeclaredMethods()) {
                hold(!names.contains(method.getName()), "a name of the face: " + method);
            }
        }
        all.add(ScissorsTable.class);
        for (Class<?> one : all) {
            int fields = 0;
            for (Field field : one.getDeclaredFields()) {
                boolean constant = Modifier.isStatic(field.getModifiers());
                hold(!constant || Modifier.isFinal(field.getModifiers()), "static fields are final: " + field);
                fields += constant ? 0 : 1;
            }
            hold(fields <= 20, "twenty fields: " + one + " has " + fields);
            for (Method method : one.getDeclaredMethods()) {
                boolean bears = names.contains(method.getName()) && Modifier.isPrivate(method.getModifiers());
                hold(!bears, "a private method with a name of the face: " + method);
            }
        }
    }

    /** One object with 512 of its dearest calls must stay far below a room of 7.3 million fields and elements. */
    private static void checkRoom() {
        com.sun.management.ThreadMXBean bean = (com.sun.management.ThreadMXBean) java.lang.management.ManagementFactory.getThreadMXBean();
        dearCalls();
        long before = bean.getThreadAllocatedBytes(Thread.currentThread().getId());
        int calls = dearCalls();
        long bytes = bean.getThreadAllocatedBytes(Thread.currentThread().getId()) - before;
        hold(calls <= 512, calls + " calls");
        hold(bytes < 400000, calls + " calls took " + bytes + " bytes");
        System.out.println(calls + " calls took " + bytes + " bytes");
    }

    private static int dearCalls() {
        ScissorsTable table = new ScissorsTable();
        int calls = 0;
        for (int round = 0; round < 7; round++) {
            String text = "b0:-9,-9,-9/7,8,9;t1:-9,-8,-7/9,8,7/-6,5,4/3,-9,9;p2:9/9,1/1,9/-9,-8;t3:0,1,-9/8,7,-5/-9,9,9/1,-9,2";
            for (int at = 0; at < text.length(); at += 20) {
                int[] words = new int[5];
                for (int k = 0; k < 20 && at + k < text.length(); k++) {
                    words[k / 4] |= text.charAt(at + k) << 24 - 8 * (k % 4);
                }
                table.feed(words[0], words[1], words[2], words[3], words[4]);
                calls++;
            }
            table.text();
            calls++;
            for (int k = 0; k < 6; k++) {
                int tet = 6 + k % 2 * 4;
                table.cut(tet, table.fairest(tet, 0), table.fairest(tet, 1), table.fairest(tet, 2));
                table.cutsTo(6, 200);
                table.pick(k, k);
                table.rank();
                table.plan(24, 12, 6, 12, 12, 12);
                table.pieces(1);
                table.most(4);
                calls += 10;
            }
        }
        return calls;
    }
}
