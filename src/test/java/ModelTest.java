import java.math.BigInteger;
import java.util.ArrayList;
import java.util.Arrays;
import java.util.HashSet;
import java.util.List;
import java.util.NoSuchElementException;
import java.util.Random;
import java.util.Set;
import java.util.TreeMap;
import java.util.regex.Matcher;
import java.util.regex.Pattern;

/** Random runs of calls, each answer compared with that of a slow model written by other ways than the class. */
public final class ModelTest {
    private static final int RUNS = 600;
    private static final int CALLS = 512;
    private static int wrong;

    public static void main(String[] args) {
        int runs = args.length > 0 ? Integer.parseInt(args[0]) : RUNS;
        int from = args.length > 1 ? Integer.parseInt(args[1]) : 0;
        for (int seed = from; seed < from + runs && wrong < 20; seed++) {
            new Run(seed).go();
        }
        System.out.println("ModelTest: " + runs + " runs, " + wrong + " wrong");
        if (wrong != 0) {
            System.exit(1);
        }
    }

    /** One object beside one model. */
    private static final class Run {
        final int seed;
        final Random random;
        final ScissorsTable table = new ScissorsTable();
        final Model model = new Model();
        final List<String> log = new ArrayList<>();
        boolean broken;
        /** While it is, nothing is changed, so that several EDGES stay PICKED. */
        boolean quiet;
        int calls;

        Run(int seed) {
            this.seed = seed;
            random = new Random(seed * 7919L + 13);
        }

        void go() {
            while (calls < CALLS && !broken) {
                quiet = random.nextInt(20) == 0 ? random.nextBoolean() : quiet;
                if (calls == 0 || random.nextInt(45) == 0) {
                    tell();
                } else {
                    one();
                }
            }
        }

        void due(String call, long got, long want) {
            calls++;
            log.add(call + " = " + got);
            if (got != want && !broken) {
                broken = true;
                wrong++;
                System.out.println("seed " + seed + ": " + call + " answered " + got + ", the model says " + want);
                for (int k = Math.max(0, log.size() - 30); k < log.size(); k++) {
                    System.out.println("    " + log.get(k));
                }
            }
        }

        /** A fresh TEXT, mostly a right one. */
        void tell() {
            if (random.nextInt(10) != 0) {
                due("end(0)", table.end(0) ? 1 : 0, model.end(0) ? 1 : 0);
            }
            String text = Texts.text(random);
            for (int at = 0; at < text.length(); at += 20) {
                int[] words = new int[5];
                for (int k = 0; k < 20; k++) {
                    int sign = at + k < text.length() ? text.charAt(at + k) & 255 : 0;
                    words[k / 4] |= sign << 24 - 8 * (k % 4);
                }
                feed(words);
            }
            due("fault()", table.fault(), model.fault());
            due("text()", table.text(), model.text());
        }

        void feed(int[] w) {
            due("feed(" + Arrays.toString(w) + ")", table.feed(w[0], w[1], w[2], w[3], w[4]), model.feed(w));
        }

        int number(int from, int to) {
            return random.nextInt(40) == 0 ? new int[] {-1, from - 1, to + 1, Integer.MAX_VALUE, Integer.MIN_VALUE, 1000}[random.nextInt(6)]
                    : from + random.nextInt(to - from + 1);
        }

        int tet() {
            return number(0, Math.max(0, model.tets.size() - 1));
        }

        int solid() {
            return number(0, 3);
        }

        void one() {
            int which = random.nextInt(39);
            if (quiet && which >= 16 && which <= 24) {
                which = new int[] {25, 27, 28, 28, 29, 30, 30, 31, 31}[which - 16];
            }
            switch (which) {
                case 0: feed(new int[] {random.nextInt(), random.nextInt(4), 0, 0, random.nextInt(3) << 8}); break;
                case 1: { int n = random.nextInt(700) - 20; due("end(" + n + ")", table.end(n) ? 1 : 0, model.end(n) ? 1 : 0); break; }
                case 2: due("fault()", table.fault(), model.fault()); break;
                case 3: if (random.nextInt(4) == 0) { due("text()", table.text(), model.text()); } break;
                case 4: { int w = number(0, 3); due("count(" + w + ")", table.count(w), model.count(w)); break; }
                case 5: oneTet(tet(), number(0, 1)); break;
                case 6: { int t = tet(), c = number(0, 3), a = number(0, 2); due("corner(" + t + "," + c + "," + a + ")", table.corner(t, c, a), model.corner(t, c, a)); break; }
                case 7: { int t = tet(), e = number(0, 5), w = number(0, 5); due("edge(" + t + "," + e + "," + w + ")", table.edge(t, e, w), model.edge(t, e, w)); break; }
                case 8: { int t = tet(), e = number(0, 5), i = number(0, 3), w = number(0, 1); due("prime(" + t + "," + e + "," + i + "," + w + ")", table.prime(t, e, i, w), model.prime(t, e, i, w)); break; }
                case 9: { int s = solid(), w = number(0, 3); due("solid(" + s + "," + w + ")", table.solid(s, w), model.solid(s, w)); break; }
                case 10: { int s = solid(), i = number(0, random.nextBoolean() ? 2 : 40), w = number(0, 2); due("term(" + s + "," + i + "," + w + ")", table.term(s, i, w), model.term(s, i, w)); break; }
                case 11: oneMuch(); break;
                case 12: { int s = solid(), o = solid(); due("alike(" + s + "," + o + ")", table.alike(s, o), model.alike(s, o)); break; }
                case 13: { int s = solid(), o = solid(), w = number(0, 2); due("unlike(" + s + "," + o + "," + w + ")", table.unlike(s, o, w), model.unlike(s, o, w)); break; }
                case 14: { int s = solid(), o = solid(); due("lacks(" + s + "," + o + ")", table.lacks(s, o), model.lacks(s, o)); break; }
                case 15: { int t = tet(); int[] p = point(t); due("where(" + t + "," + Arrays.toString(p) + ")", table.where(t, p[0], p[1], p[2]), model.where(t, p[0], p[1], p[2])); break; }
                case 16: { int t = tet(); int[] p = point(t); due("cut(" + t + "," + Arrays.toString(p) + ")", table.cut(t, p[0], p[1], p[2]), model.cut(t, p[0], p[1], p[2])); allCorners(); joinAgain(t); break; }
                case 17: oneJoin(); break;
                case 18: { int t = tet(), b = number(0, 47); due("turn(" + t + "," + b + ")", table.turn(t, b), model.turn(t, b)); allCorners(); break; }
                case 19: { int t = tet(); int r = random.nextInt(4) == 0 ? 18 : 2, x = number(-r, r), y = number(-r, r), z = number(-r, r); due("move(" + t + "," + x + "," + y + "," + z + ")", table.move(t, x, y, z), model.move(t, x, y, z)); allCorners(); break; }
                case 20: { int t = tet(), s = solid(); due("give(" + t + "," + s + ")", table.give(t, s), model.give(t, s)); break; }
                case 21: if (random.nextInt(3) == 0) { int t = tet(); due("drop(" + t + ")", table.drop(t), model.drop(t)); allCorners(); } break;
                case 22: { int t = tet(); due("points(" + t + ")", table.points(t), model.points(t)); break; }
                case 23: { int t = tet(), w = number(0, 3); due("fairest(" + t + "," + w + ")", table.fairest(t, w), model.fairest(t, w)); break; }
                case 24: oneCutsTo(); break;
                case 25: case 36: case 37: case 38: onePick(); break;
                case 26: if (random.nextInt(4) == 0) { due("unpick()", table.unpick(), model.unpick()); } break;
                case 27: due("rank()", table.rank(), model.rank()); break;
                case 28: { int i = number(0, 5); due("relation(" + i + ")", table.relation(i), model.relation(i)); break; }
                case 29: { int b = number(0, 15); due("rankOf(" + b + ")", table.rankOf(b), model.rankOf(b)); break; }
                case 30: { int b = number(0, 15), s = solid(); due("relationOf(" + b + "," + s + ")", table.relationOf(b, s), model.relationOf(b, s)); break; }
                case 31: { int s = solid(), o = solid(), w = number(0, 2); due("multiples(" + s + "," + o + "," + w + ")", table.multiples(s, o, w), model.multiples(s, o, w)); break; }
                case 32: onePlan(); break;
                case 33: { int i = number(0, 4), w = number(0, 2); due("step(" + i + "," + w + ")", table.step(i, w), model.step(i, w)); due("side(" + i + "," + w + ")", table.side(i, w), model.side(i, w)); break; }
                case 34: { int x = number(0, 6), y = number(0, 6), z = number(0, 6), i = number(0, 3), a = number(0, 2); due("cube(" + x + "," + y + "," + z + "," + i + "," + a + ")", table.cube(x, y, z, i, a), model.cube(x, y, z, i, a)); due("pieces(" + i + ")", table.pieces(i), model.pieces(i)); break; }
                default: { int w = number(0, 6); due("most(" + w + ")", table.most(w), model.most(w)); break; }
            }
        }

        void allCorners() {
            if (random.nextInt(6) == 0) {
                for (int t = 0; t < model.tets.size(); t++) {
                    for (int k = 0; k < 12; k++) {
                        calls--;
                        due("corner(" + t + "," + k / 3 + "," + k % 3 + ")", table.corner(t, k / 3, k % 3), model.corner(t, k / 3, k % 3));
                    }
                }
            }
        }

        void oneTet(int t, int w) {
            long got;
            try {
                got = table.tet(t, w);
            } catch (NoSuchElementException e) {
                got = Long.MIN_VALUE;
            }
            due("tet(" + t + "," + w + ")", got, model.tet(t, w));
        }

        void oneMuch() {
            int s = solid();
            int m = number(0, 30);
            int p = number(0, 40);
            if (random.nextBoolean() && s >= 0 && s < 4) {
                List<long[]> terms = model.terms(s);
                if (!terms.isEmpty()) {
                    long[] term = terms.get(random.nextInt(terms.size()));
                    m = (int) term[0];
                    p = (int) term[1];
                }
            }
            due("much(" + s + "," + m + "," + p + ")", table.much(s, m, p), model.much(s, m, p));
        }

        int[] point(int t) {
            if (t >= 0 && t < model.tets.size() && random.nextInt(5) != 0) {
                List<int[]> inside = model.pointsOf(model.tets.get(t).corners);
                return inside.get(random.nextInt(inside.size())).clone();
            }
            return new int[] {number(-9, 9), number(-9, 9), number(-9, 9)};
        }

        void oneJoin() {
            int t = tet();
            int o = tet();
            if (random.nextInt(3) != 0) {
                for (int i = 0; i < model.tets.size(); i++) {
                    for (int j = 0; j < model.tets.size(); j++) {
                        if (i != j && model.joined(i, j) != null && random.nextInt(3) == 0) {
                            t = i;
                            o = j;
                        }
                    }
                }
            }
            due("join(" + t + "," + o + ")", table.join(t, o), model.join(t, o));
            allCorners();
        }

        /** A TET and the last one, which were one if it was just CUT in two. */
        void joinAgain(int t) {
            if (random.nextInt(3) == 0) {
                int last = model.tets.size() - 1;
                due("join(" + last + "," + t + ")", table.join(last, t), model.join(last, t));
                allCorners();
            }
        }

        void oneCutsTo() {
            int t = tet();
            int six = number(0, 60);
            if (t >= 0 && t < model.tets.size() && random.nextBoolean()) {
                six = model.tets.get(t).six() / (1 + random.nextInt(12));
            }
            due("cutsTo(" + t + "," + six + ")", table.cutsTo(t, six), model.cutsTo(t, six));
        }

        void onePick() {
            int t = tet();
            int e = number(0, 5);
            if (random.nextInt(3) != 0 && e >= 0 && e < 6) {
                t = random.nextInt(3);
                for (int k = 0; k < 20 && model.twelfthsOrNone(t, e) != -1; k++) {
                    t = random.nextInt(Math.max(1, model.tets.size()));
                    e = random.nextInt(6);
                }
            }
            due("pick(" + t + "," + e + ")", table.pick(t, e), model.pick(t, e));
        }

        void onePlan() {
            int[] s = new int[6];
            for (int k = 0; k < 6; k++) {
                s[k] = number(1, random.nextInt(3) == 0 ? 24 : 8);
            }
            if (random.nextInt(6) != 0) {
                s[0] = 1 << random.nextInt(4);
                s[1] = new int[] {1, 2, 3, 4, 6, 8, 12}[random.nextInt(7)];
                s[2] = new int[] {1, 2, 3, 4, 5, 6, 9}[random.nextInt(7)];
                int volume = s[0] * s[1] * s[2];
                for (int tries = 0; tries < 300; tries++) {
                    int a = 1 + random.nextInt(24);
                    int b = 1 + random.nextInt(24);
                    if (volume % (a * b) == 0 && volume / (a * b) <= 25) {
                        s[3] = a;
                        s[4] = b;
                        s[5] = volume / (a * b);
                    }
                }
            }
            due("plan(" + Arrays.toString(s) + ")", table.plan(s[0], s[1], s[2], s[3], s[4], s[5]), model.plan(s));
        }
    }

    /** Random TEXTS, right ones and others. */
    private static final class Texts {
        static String text(Random random) {
            if (random.nextInt(3) == 0) {
                return family(random);
            }
            StringBuilder text = new StringBuilder();
            int clauses = 1 + random.nextInt(random.nextInt(6) == 0 ? 30 : 8);
            int reach = new int[] {1, 2, 3, 9}[random.nextInt(4)];
            for (int k = 0; k < clauses; k++) {
                text.append(k == 0 ? "" : ";").append(clause(random, reach));
            }
            if (random.nextInt(4) == 0) {
                blanks(text, random);
            }
            if (random.nextInt(6) == 0) {
                spoil(text, random);
            }
            return text.length() > 560 ? text.substring(0, 560 - random.nextInt(8)) : text.toString();
        }

        /** A few TETS, each in several sizes and SOLIDS, so that SUMS and ANGLES hang together. */
        static String family(Random random) {
            int kinds = 1 + random.nextInt(3);
            int[][] kind = new int[kinds][12];
            for (int[] corners : kind) {
                for (int k = 0; k < 12; k++) {
                    corners[k] = random.nextInt(5) / 2 - random.nextInt(2);
                }
            }
            StringBuilder text = new StringBuilder();
            for (int k = 4 + random.nextInt(16); k > 0; k--) {
                int[] corners = kind[random.nextInt(kinds)];
                int size = 1 + random.nextInt(4);
                text.append(text.length() == 0 ? "t" : ";t").append(random.nextInt(4));
                for (int c = 0; c < 12; c++) {
                    text.append(c == 0 ? ":" : c % 3 == 0 ? "/" : ",").append(size * corners[c]);
                }
            }
            return text.substring(0, Math.min(text.length(), 560));
        }

        static void blanks(StringBuilder text, Random random) {
            for (int k = random.nextInt(8); k >= 0; k--) {
                int at = random.nextInt(text.length() + 1);
                if (at == 0 || text.charAt(at - 1) != '-' || random.nextInt(9) == 0) {
                    text.insert(at, ' ');
                }
            }
        }

        static void spoil(StringBuilder text, Random random) {
            String signs = "tbp0123456789-,/:; x+";
            int at = random.nextInt(text.length());
            char sign = random.nextInt(12) == 0 ? (char) (128 + random.nextInt(128)) : signs.charAt(random.nextInt(signs.length()));
            switch (random.nextInt(4)) {
                case 0: text.deleteCharAt(at); break;
                case 1: text.insert(at, sign); break;
                case 2: text.setCharAt(at, sign); break;
                default: text.setLength(at); break;
            }
        }

        static String clause(Random random, int reach) {
            int solid = random.nextInt(4);
            switch (random.nextInt(6)) {
                case 0: return "b" + solid + ":" + numbers(random, reach, 3) + "/" + side(random, reach) + "," + side(random, reach) + "," + side(random, reach);
                case 1: return "p" + solid + ":" + prism(random, reach);
                default: return "t" + solid + ":" + numbers(random, reach, 3) + "/" + numbers(random, reach, 3) + "/" + numbers(random, reach, 3) + "/" + numbers(random, reach, 3);
            }
        }

        static int side(Random random, int reach) {
            return 1 + random.nextInt(reach);
        }

        static String prism(Random random, int reach) {
            StringBuilder text = new StringBuilder().append(side(random, reach));
            if (random.nextInt(3) == 0) {
                int[] hexagon = {2, 0, 1, 2, -1, 2, -2, 0, -1, -2, 1, -2};
                int corners = 3 + random.nextInt(4);
                boolean back = random.nextBoolean();
                for (int k = 0; k < corners; k++) {
                    int at = back ? corners - 1 - k : k;
                    text.append("/").append(hexagon[2 * at]).append(",").append(hexagon[2 * at + 1]);
                }
            } else {
                for (int k = 3 + random.nextInt(random.nextInt(3) == 0 ? 4 : 1); k > 0; k--) {
                    text.append("/").append(numbers(random, reach, 2));
                }
            }
            return text.toString();
        }

        static String numbers(Random random, int reach, int count) {
            StringBuilder text = new StringBuilder();
            for (int k = 0; k < count; k++) {
                int number = random.nextInt(2 * reach + 1) - reach;
                text.append(k == 0 ? "" : ",").append(number == 0 && random.nextInt(9) == 0 ? "-0" : String.valueOf(number));
            }
            return text.toString();
        }
    }

    private static final class Tet {
        final int[][] corners;
        int solid;

        Tet(int[][] corners, int solid) {
            this.corners = corners;
            this.solid = solid;
        }

        int six() {
            return Math.abs(Model.det(corners));
        }
    }

    private static final class Model {
        static final int NONE = -1;
        static final int HIDDEN = -1000000;
        static final String B = " *";
        static final String NUMBER = B + "(?:-[0-9]|[0-9])" + B;
        static final String SIDE = B + "[1-9]" + B;
        static final String CORNER = NUMBER + "," + NUMBER + "," + NUMBER;
        static final String TET = "t" + B + "[0-3]" + B + ":" + CORNER + "/" + CORNER + "/" + CORNER + "/" + CORNER;
        static final String BOX = "b" + B + "[0-3]" + B + ":" + CORNER + "/" + SIDE + "," + SIDE + "," + SIDE;
        static final String PRISM = "p" + B + "[0-3]" + B + ":" + SIDE + "(?:/" + NUMBER + "," + NUMBER + "){3,6}";
        static final String CLAUSE = B + "(?:" + TET + "|" + BOX + "|" + PRISM + ")";
        static final Pattern TEXT = Pattern.compile(CLAUSE + "(?:;" + CLAUSE + ")*");
        static final int[][] EDGE = {{0, 1, 2, 3}, {0, 2, 1, 3}, {0, 3, 1, 2}, {1, 2, 0, 3}, {1, 3, 0, 2}, {2, 3, 0, 1}};
        static final String[] ORDERS = {"XYZ", "XZY", "YXZ", "YZX", "ZXY", "ZYX"};

        String tape = "";
        List<Tet> tets = new ArrayList<>();
        List<int[]> picks = new ArrayList<>();
        List<int[]> plan;
        int[] box;

        int feed(int[] words) {
            StringBuilder more = new StringBuilder(tape);
            for (int word : words) {
                for (byte b : java.nio.ByteBuffer.allocate(4).putInt(word).array()) {
                    if (b != 0) {
                        more.append((char) (b & 255));
                    }
                }
            }
            if (more.length() > 600) {
                return NONE;
            }
            tape = more.toString();
            return tape.length();
        }

        boolean end(int n) {
            if (n < 0 || n > tape.length()) {
                return false;
            }
            tape = tape.substring(0, n);
            return true;
        }

        /** The longest beginning that a TEXT can have. */
        int fault() {
            if (TEXT.matcher(tape).matches()) {
                return NONE;
            }
            int low = 0;
            int high = tape.length();
            while (low < high) {
                int middle = (low + high + 1) / 2;
                if (canGoOn(tape.substring(0, middle))) {
                    low = middle;
                } else {
                    high = middle - 1;
                }
            }
            return low;
        }

        static boolean canGoOn(String start) {
            Matcher matcher = TEXT.matcher(start);
            return matcher.matches() || matcher.hitEnd();
        }

        int text() {
            if (fault() != NONE) {
                return NONE;
            }
            tets.clear();
            picks.clear();
            int left = 0;
            for (String clause : tape.replace(" ", "").split(";")) {
                List<Tet> made = make(clause);
                if (made == null || tets.size() + made.size() > 48) {
                    left++;
                } else {
                    tets.addAll(made);
                }
            }
            tape = "";
            return left;
        }

        static List<Tet> make(String clause) {
            int solid = clause.charAt(1) - '0';
            String[] parts = clause.substring(3).split("/");
            int[][] numbers = new int[parts.length][];
            for (int k = 0; k < parts.length; k++) {
                numbers[k] = Arrays.stream(parts[k].split(",")).mapToInt(Integer::parseInt).toArray();
            }
            List<Tet> made = new ArrayList<>();
            if (clause.charAt(0) == 't') {
                made.add(new Tet(numbers, solid));
                return made.get(0).six() == 0 ? null : made;
            }
            return clause.charAt(0) == 'b' ? makeBox(numbers, solid, made) : makePrism(numbers, solid, made);
        }

        static List<Tet> makeBox(int[][] numbers, int solid, List<Tet> made) {
            for (String order : ORDERS) {
                int[][] corners = new int[4][];
                int[] at = numbers[0].clone();
                corners[0] = at.clone();
                for (int k = 0; k < 3; k++) {
                    int axis = order.charAt(k) - 'X';
                    at[axis] += numbers[1][axis];
                    corners[k + 1] = at.clone();
                    if (at[axis] > 9) {
                        return null;
                    }
                }
                made.add(new Tet(corners, solid));
            }
            return made;
        }

        static List<Tet> makePrism(int[][] numbers, int solid, List<Tet> made) {
            int height = numbers[0][0];
            int n = numbers.length - 1;
            boolean left = true;
            boolean right = true;
            for (int i = 1; i <= n; i++) {
                for (int j = i + 1; j <= n; j++) {
                    for (int k = j + 1; k <= n; k++) {
                        int[] a = numbers[i];
                        int[] b = numbers[j];
                        int[] c = numbers[k];
                        int turn = a[0] * b[1] + b[0] * c[1] + c[0] * a[1] - a[1] * b[0] - b[1] * c[0] - c[1] * a[0];
                        left &= turn > 0;
                        right &= turn < 0;
                    }
                }
            }
            if (!left && !right) {
                return null;
            }
            for (int k = 3; k <= n; k++) {
                int[] a = {numbers[1][0], numbers[1][1], 0};
                int[] b = {numbers[k - 1][0], numbers[k - 1][1], 0};
                int[] c = {numbers[k][0], numbers[k][1], 0};
                made.add(new Tet(new int[][] {a, b, c, up(c, height)}, solid));
                made.add(new Tet(new int[][] {a.clone(), b.clone(), up(b, height), up(c, height)}, solid));
                made.add(new Tet(new int[][] {a.clone(), up(a, height), up(b, height), up(c, height)}, solid));
            }
            return made;
        }

        static int[] up(int[] corner, int height) {
            return new int[] {corner[0], corner[1], height};
        }

        /** The determinant of four corners with a column of ones, by its whole sum over orders. */
        static int det(int[][] c) {
            int all = 0;
            for (int i = 0; i < 4; i++) {
                for (int j = 0; j < 4; j++) {
                    for (int k = 0; k < 4; k++) {
                        int l = 6 - i - j - k;
                        if (i != j && i != k && j != k && l != i && l != j && l != k && l >= 0 && l < 4) {
                            int sign = Integer.signum((j - i) * (k - i) * (l - i) * (k - j) * (l - j) * (l - k));
                            all += sign * c[i][0] * c[j][1] * c[k][2];
                        }
                    }
                }
            }
            return all;
        }

        int count(int what) {
            switch (what) {
                case 0: return tets.size();
                case 1: return tape.length();
                case 2: return picks.size();
                case 3: return plan == null ? NONE : plan.size();
                default: return HIDDEN;
            }
        }

        boolean has(int tet) {
            return tet >= 0 && tet < tets.size();
        }

        long tet(int tet, int what) {
            if (!has(tet) || what != 0 && what != 1) {
                return Long.MIN_VALUE;
            }
            return what == 0 ? tets.get(tet).solid : tets.get(tet).six();
        }

        int corner(int tet, int corner, int axis) {
            boolean is = has(tet) && corner >= 0 && corner <= 3 && axis >= 0 && axis <= 2;
            return is ? tets.get(tet).corners[corner][axis] : HIDDEN;
        }

        static long[] minus(int[] a, int[] b) {
            return new long[] {a[0] - b[0], a[1] - b[1], a[2] - b[2]};
        }

        static long[] cross(long[] a, long[] b) {
            return new long[] {a[1] * b[2] - a[2] * b[1], a[2] * b[0] - a[0] * b[2], a[0] * b[1] - a[1] * b[0]};
        }

        static long dot(long[] a, long[] b) {
            return a[0] * b[0] + a[1] * b[1] + a[2] * b[2];
        }

        /** Q, M, A, B by the normals of both faces. */
        long[] shape(Tet tet, int edge) {
            int[][] c = tet.corners;
            int[] e = EDGE[edge];
            long[] along = minus(c[e[1]], c[e[0]]);
            long[] one = cross(along, minus(c[e[2]], c[e[0]]));
            long[] other = cross(along, minus(c[e[3]], c[e[0]]));
            long n = dot(along, along);
            long m = n;
            long q = 1;
            for (long k = 2; k * k <= m; k++) {
                while (m % (k * k) == 0) {
                    m /= k * k;
                    q *= k;
                }
            }
            BigInteger a = BigInteger.valueOf(dot(one, other));
            BigInteger b = BigInteger.valueOf(tet.six() * q);
            BigInteger g = a.gcd(b);
            return new long[] {q, m, a.divide(g).longValue(), b.divide(g).longValue()};
        }

        int twelfths(long[] shape) {
            double turn = Math.atan2(shape[3] * Math.sqrt(shape[1]), shape[2]) * 12 / Math.PI;
            int near = (int) Math.round(turn);
            return Math.abs(turn - near) < 1e-9 ? near : NONE;
        }

        int twelfthsOrNone(int tet, int edge) {
            return has(tet) ? twelfths(shape(tets.get(tet), edge)) : NONE;
        }

        /** Pairs P, E with its sign. */
        List<long[]> primes(long[] shape) {
            List<long[]> primes = new ArrayList<>();
            if (twelfths(shape) != NONE) {
                return primes;
            }
            long m = shape[1];
            long a = shape[2];
            long b = shape[3];
            long norm = a * a + m * b * b;
            for (long p = 2; norm > 1; p++) {
                if (p * p > norm) {
                    p = norm;
                }
                int e = 0;
                while (norm % p == 0) {
                    norm /= p;
                    e++;
                }
                boolean counts = e > 0 && m % p != 0 && (p != 2 || m % 8 == 7);
                if (counts && p == 2) {
                    e -= 2;
                }
                if (counts && e > 0) {
                    primes.add(new long[] {p, above(a, b, p) ? e : -e});
                }
            }
            return primes;
        }

        static boolean above(long a, long b, long p) {
            if (p == 2) {
                return Math.floorMod(a + b, 4) == 0;
            }
            BigInteger big = BigInteger.valueOf(p);
            BigInteger rest = BigInteger.valueOf(a).multiply(BigInteger.valueOf(b).modInverse(big)).mod(big);
            return rest.longValue() <= (p - 1) / 2;
        }

        int edge(int tet, int edge, int what) {
            if (!has(tet) || edge < 0 || edge > 5 || what < 0 || what > 5) {
                return HIDDEN;
            }
            long[] shape = shape(tets.get(tet), edge);
            return what < 4 ? (int) shape[what] : what == 4 ? twelfths(shape) : primes(shape).size();
        }

        int prime(int tet, int edge, int i, int what) {
            if (!has(tet) || edge < 0 || edge > 5 || what < 0 || what > 1) {
                return HIDDEN;
            }
            List<long[]> primes = primes(shape(tets.get(tet), edge));
            return i >= 0 && i < primes.size() ? (int) primes.get(i)[what] : HIDDEN;
        }

        static boolean isSolid(int solid) {
            return solid >= 0 && solid <= 3;
        }

        List<long[]> terms(int solid) {
            TreeMap<Long, Long> sum = new TreeMap<>();
            for (Tet tet : tets) {
                for (int edge = 0; edge < 6 && tet.solid == solid; edge++) {
                    long[] shape = shape(tet, edge);
                    for (long[] prime : primes(shape)) {
                        sum.merge(shape[1] * 10000000L + prime[0], shape[0] * prime[1], Long::sum);
                    }
                }
            }
            List<long[]> terms = new ArrayList<>();
            sum.forEach((key, much) -> {
                if (much != 0) {
                    terms.add(new long[] {key / 10000000L, key % 10000000L, much});
                }
            });
            return terms;
        }

        int volume(int solid) {
            return tets.stream().filter(t -> t.solid == solid).mapToInt(Tet::six).sum();
        }

        int tetsOf(int solid) {
            return (int) tets.stream().filter(t -> t.solid == solid).count();
        }

        int odd(int solid) {
            int odd = 0;
            for (Tet tet : tets) {
                for (int edge = 0; edge < 6; edge++) {
                    odd += tet.solid == solid && twelfths(shape(tet, edge)) == NONE ? 1 : 0;
                }
            }
            return odd;
        }

        int solid(int solid, int what) {
            if (!isSolid(solid) || what < 0 || what > 3) {
                return NONE;
            }
            return what == 0 ? volume(solid) : what == 1 ? tetsOf(solid) : what == 2 ? odd(solid) : terms(solid).size();
        }

        int term(int solid, int i, int what) {
            if (!isSolid(solid) || what < 0 || what > 2) {
                return HIDDEN;
            }
            List<long[]> terms = terms(solid);
            return i >= 0 && i < terms.size() ? (int) terms.get(i)[what] : HIDDEN;
        }

        int much(int solid, int m, int p) {
            if (!isSolid(solid)) {
                return HIDDEN;
            }
            for (long[] term : terms(solid)) {
                if (term[0] == m && term[1] == p) {
                    return (int) term[2];
                }
            }
            return 0;
        }

        List<long[]> difference(int solid, int other) {
            TreeMap<Long, Long> sum = new TreeMap<>();
            terms(solid).forEach(t -> sum.merge(t[0] * 10000000L + t[1], t[2], Long::sum));
            terms(other).forEach(t -> sum.merge(t[0] * 10000000L + t[1], -t[2], Long::sum));
            List<long[]> rest = new ArrayList<>();
            sum.forEach((key, much) -> {
                if (much != 0) {
                    rest.add(new long[] {key / 10000000L, key % 10000000L, much});
                }
            });
            return rest;
        }

        int alike(int solid, int other) {
            if (!isSolid(solid) || !isSolid(other)) {
                return NONE;
            }
            return volume(solid) != volume(other) ? 1 : difference(solid, other).isEmpty() ? 0 : 2;
        }

        int unlike(int solid, int other, int what) {
            if (!isSolid(solid) || !isSolid(other) || what < 0 || what > 2) {
                return HIDDEN;
            }
            List<long[]> rest = difference(solid, other);
            return rest.isEmpty() ? HIDDEN : (int) rest.get(0)[what];
        }

        int lacks(int solid, int other) {
            return isSolid(solid) && isSolid(other) ? volume(solid) - volume(other) : HIDDEN;
        }

        /** The signed shares of a point by the four corners, their sum the whole. */
        static int[] shares(int[][] corners, int[] point) {
            int whole = det(corners);
            int[] shares = new int[4];
            for (int k = 0; k < 4; k++) {
                int[][] piece = corners.clone();
                piece[k] = point;
                shares[k] = det(piece) * Integer.signum(whole);
            }
            return shares;
        }

        static int where(int[][] corners, int[] point) {
            int parts = 0;
            for (int share : shares(corners, point)) {
                if (share < 0) {
                    return 0;
                }
                parts += share > 0 ? 1 : 0;
            }
            return parts;
        }

        static boolean near(int... numbers) {
            for (int number : numbers) {
                if (number < -9 || number > 9) {
                    return false;
                }
            }
            return true;
        }

        int where(int tet, int x, int y, int z) {
            if (!has(tet)) {
                return NONE;
            }
            return near(x, y, z) ? where(tets.get(tet).corners, new int[] {x, y, z}) : 0;
        }

        static List<int[][]> cutPieces(int[][] corners, int[] point) {
            List<int[][]> pieces = new ArrayList<>();
            for (int k = 0; k < 4; k++) {
                int[][] piece = new int[4][];
                for (int c = 0; c < 4; c++) {
                    piece[c] = (c == k ? point : corners[c]).clone();
                }
                if (det(piece) != 0) {
                    pieces.add(piece);
                }
            }
            return pieces;
        }

        int cut(int tet, int x, int y, int z) {
            if (!has(tet)) {
                return -1;
            }
            if (!near(x, y, z)) {
                return -2;
            }
            Tet whole = tets.get(tet);
            if (where(whole.corners, new int[] {x, y, z}) < 2) {
                return -3;
            }
            List<int[][]> pieces = cutPieces(whole.corners, new int[] {x, y, z});
            if (tets.size() - 1 + pieces.size() > 48) {
                return -4;
            }
            tets.set(tet, new Tet(pieces.get(0), whole.solid));
            for (int k = 1; k < pieces.size(); k++) {
                tets.add(new Tet(pieces.get(k), whole.solid));
            }
            picks.clear();
            return pieces.size();
        }

        static int indexOf(int[][] corners, int[] corner) {
            for (int k = 0; k < 4; k++) {
                if (Arrays.equals(corners[k], corner)) {
                    return k;
                }
            }
            return -1;
        }

        /** What two TETS are together, the first of them with the lower number; null if it is no TET. */
        int[][] joined(int tet, int other) {
            Tet low = tets.get(Math.min(tet, other));
            Tet high = tets.get(Math.max(tet, other));
            int[] lone = null;
            int shared = 0;
            for (int[] corner : high.corners) {
                if (indexOf(low.corners, corner) >= 0) {
                    shared++;
                } else {
                    lone = corner;
                }
            }
            if (low.solid != high.solid || shared != 3) {
                return null;
            }
            for (int k = 0; k < 4; k++) {
                if (indexOf(high.corners, low.corners[k]) >= 0) {
                    int[][] whole = low.corners.clone();
                    whole[k] = lone.clone();
                    boolean fills = Math.abs(det(whole)) == low.six() + high.six();
                    if (fills && where(whole, low.corners[k]) == 2) {
                        return whole;
                    }
                }
            }
            return null;
        }

        int join(int tet, int other) {
            if (!has(tet) || !has(other)) {
                return -1;
            }
            int[][] whole = tet == other ? null : joined(tet, other);
            if (whole == null) {
                return -3;
            }
            int low = Math.min(tet, other);
            tets.set(low, new Tet(whole, tets.get(low).solid));
            tets.remove(Math.max(tet, other));
            picks.clear();
            return low;
        }

        int turn(int tet, int by) {
            if (!has(tet)) {
                return -1;
            }
            if (by < 0 || by > 47) {
                return -2;
            }
            int[][] old = tets.get(tet).corners;
            int[][] now = new int[4][3];
            int others = 0;
            for (int c = 0; c < 4; c++) {
                for (int axis = 0; axis < 3; axis++) {
                    int from = ORDERS[by / 8].charAt(axis) - 'X';
                    boolean minus = by % 8 / (1 << axis) % 2 == 1;
                    now[c][axis] = minus ? -old[c][from] : old[c][from];
                    others += now[c][axis] != old[c][axis] ? 1 : 0;
                }
            }
            if (others == 0) {
                return -3;
            }
            tets.set(tet, new Tet(now, tets.get(tet).solid));
            picks.clear();
            return others;
        }

        int move(int tet, int x, int y, int z) {
            if (!has(tet)) {
                return -1;
            }
            for (int number : new int[] {x, y, z}) {
                if (number < -18 || number > 18) {
                    return -2;
                }
            }
            int[][] now = new int[4][];
            for (int c = 0; c < 4; c++) {
                int[] old = tets.get(tet).corners[c];
                now[c] = new int[] {old[0] + x, old[1] + y, old[2] + z};
                if (!near(now[c])) {
                    return -2;
                }
            }
            if (x == 0 && y == 0 && z == 0) {
                return -3;
            }
            tets.set(tet, new Tet(now, tets.get(tet).solid));
            picks.clear();
            return tets.get(tet).six();
        }

        int give(int tet, int solid) {
            if (!has(tet) || !isSolid(solid)) {
                return -1;
            }
            int old = tets.get(tet).solid;
            if (old == solid) {
                return -3;
            }
            tets.get(tet).solid = solid;
            picks.clear();
            return old;
        }

        int drop(int tet) {
            if (!has(tet)) {
                return -1;
            }
            tets.remove(tet);
            picks.clear();
            return tets.size();
        }

        List<int[]> pointsOf(int[][] corners) {
            List<int[]> points = new ArrayList<>();
            int[] least = corners[0].clone();
            int[] greatest = corners[0].clone();
            for (int[] corner : corners) {
                for (int axis = 0; axis < 3; axis++) {
                    least[axis] = Math.min(least[axis], corner[axis]);
                    greatest[axis] = Math.max(greatest[axis], corner[axis]);
                }
            }
            for (int x = least[0]; x <= greatest[0]; x++) {
                for (int y = least[1]; y <= greatest[1]; y++) {
                    for (int z = least[2]; z <= greatest[2]; z++) {
                        int[] point = {x, y, z};
                        if (where(corners, point) > 0) {
                            points.add(point);
                        }
                    }
                }
            }
            return points;
        }

        int points(int tet) {
            return has(tet) ? pointsOf(tets.get(tet).corners).size() : NONE;
        }

        /** X, Y, Z, the greatest SIX; null if there is none. */
        int[] fairestOf(int[][] corners) {
            int[] best = null;
            for (int[] point : pointsOf(corners)) {
                if (indexOf(corners, point) < 0) {
                    int worst = cutPieces(corners, point).stream().mapToInt(p -> Math.abs(det(p))).max().getAsInt();
                    if (best == null || worst < best[3]) {
                        best = new int[] {point[0], point[1], point[2], worst};
                    }
                }
            }
            return best;
        }

        int fairest(int tet, int what) {
            if (!has(tet) || what < 0 || what > 3) {
                return HIDDEN;
            }
            int[] best = fairestOf(tets.get(tet).corners);
            return best == null ? HIDDEN : best[what];
        }

        int cutsTo(int tet, int six) {
            if (!has(tet) || six < 1) {
                return NONE;
            }
            List<int[][]> pieces = new ArrayList<>();
            pieces.add(tets.get(tet).corners);
            int cuts = 0;
            for (int k = 0; k < pieces.size(); k++) {
                if (Math.abs(det(pieces.get(k))) > six) {
                    int[] best = fairestOf(pieces.get(k));
                    cuts++;
                    if (best == null || cuts > 40) {
                        return NONE;
                    }
                    pieces.addAll(cutPieces(pieces.get(k), Arrays.copyOf(best, 3)));
                }
            }
            return cuts;
        }

        int pick(int tet, int edge) {
            if (!has(tet) || edge < 0 || edge > 5) {
                return -1;
            }
            if (picks.size() == 6) {
                return -3;
            }
            picks.add(new int[] {tet, edge});
            return picks.size();
        }

        int unpick() {
            int were = picks.size();
            picks.clear();
            return were;
        }

        List<TreeMap<Long, BigInteger>> pickedRows() {
            List<TreeMap<Long, BigInteger>> rows = new ArrayList<>();
            for (int[] pick : picks) {
                TreeMap<Long, BigInteger> row = new TreeMap<>();
                long[] shape = shape(tets.get(pick[0]), pick[1]);
                primes(shape).forEach(p -> row.put(shape[1] * 10000000L + p[0], BigInteger.valueOf(p[1])));
                rows.add(row);
            }
            return rows;
        }

        List<TreeMap<Long, BigInteger>> solidRows(int solids) {
            List<TreeMap<Long, BigInteger>> rows = new ArrayList<>();
            for (int k = 0; k < 4; k++) {
                if ((solids >> k & 1) == 1) {
                    TreeMap<Long, BigInteger> row = new TreeMap<>();
                    terms(k).forEach(t -> row.put(t[0] * 10000000L + t[1], BigInteger.valueOf(t[2])));
                    rows.add(row);
                }
            }
            return rows;
        }

        /** Elimination, each row beside the times of all rows of which it is made. Null or the first relation; rank in rank[0]. */
        static BigInteger[] relation(List<TreeMap<Long, BigInteger>> rows, int[] rank) {
            List<TreeMap<Long, BigInteger>> held = new ArrayList<>();
            List<BigInteger[]> heldTimes = new ArrayList<>();
            BigInteger[] first = null;
            for (int k = 0; k < rows.size(); k++) {
                TreeMap<Long, BigInteger> row = new TreeMap<>(rows.get(k));
                BigInteger[] times = new BigInteger[rows.size()];
                Arrays.fill(times, BigInteger.ZERO);
                times[k] = BigInteger.ONE;
                for (int h = 0; h < held.size(); h++) {
                    long pivot = held.get(h).firstKey();
                    BigInteger mine = row.getOrDefault(pivot, BigInteger.ZERO);
                    BigInteger theirs = held.get(h).get(pivot);
                    row = mix(row, theirs, held.get(h), mine.negate());
                    for (int j = 0; j < times.length; j++) {
                        times[j] = times[j].multiply(theirs).subtract(heldTimes.get(h)[j].multiply(mine));
                    }
                }
                if (!row.isEmpty()) {
                    held.add(row);
                    heldTimes.add(times);
                } else if (first == null) {
                    BigInteger g = BigInteger.ZERO;
                    for (BigInteger time : times) {
                        g = g.gcd(time);
                    }
                    g = times[k].signum() < 0 ? g.negate() : g;
                    for (int j = 0; j < times.length; j++) {
                        times[j] = times[j].divide(g);
                    }
                    first = times;
                }
            }
            rank[0] = held.size();
            return first;
        }

        static TreeMap<Long, BigInteger> mix(TreeMap<Long, BigInteger> a, BigInteger s, TreeMap<Long, BigInteger> b, BigInteger t) {
            TreeMap<Long, BigInteger> all = new TreeMap<>();
            a.forEach((key, value) -> all.merge(key, value.multiply(s), BigInteger::add));
            b.forEach((key, value) -> all.merge(key, value.multiply(t), BigInteger::add));
            all.values().removeIf(value -> value.signum() == 0);
            return all;
        }

        static int told(BigInteger[] relation, int i) {
            if (relation == null) {
                return HIDDEN;
            }
            for (BigInteger time : relation) {
                if (time.bitLength() > 31) {
                    return HIDDEN;
                }
            }
            return relation[i].intValue();
        }

        int rank() {
            int[] rank = new int[1];
            relation(pickedRows(), rank);
            return rank[0];
        }

        int relation(int i) {
            return i < 0 || i >= picks.size() ? HIDDEN : told(relation(pickedRows(), new int[1]), i);
        }

        int rankOf(int solids) {
            if (solids < 0 || solids > 15) {
                return NONE;
            }
            int[] rank = new int[1];
            relation(solidRows(solids), rank);
            return rank[0];
        }

        int relationOf(int solids, int solid) {
            if (solids < 0 || solids > 15 || !isSolid(solid)) {
                return HIDDEN;
            }
            BigInteger[] relation = relation(solidRows(solids), new int[1]);
            int place = 0;
            for (int k = 0; k < solid; k++) {
                place += solids >> k & 1;
            }
            if (relation == null || (solids >> solid & 1) == 1) {
                return told(relation, place);
            }
            return 0;
        }

        long multiples(int solid, int other, int what) {
            if (!isSolid(solid) || !isSolid(other) || what < 0 || what > 2) {
                return HIDDEN;
            }
            List<long[]> mine = terms(solid);
            List<long[]> theirs = terms(other);
            if (mine.isEmpty() || mine.size() != theirs.size()) {
                return HIDDEN;
            }
            BigInteger a = BigInteger.valueOf(mine.get(0)[2]);
            BigInteger b = BigInteger.valueOf(theirs.get(0)[2]);
            if (a.signum() != b.signum()) {
                return HIDDEN;
            }
            long first = b.abs().divide(a.gcd(b)).longValue();
            long second = a.abs().divide(a.gcd(b)).longValue();
            for (int k = 0; k < mine.size(); k++) {
                long[] x = mine.get(k);
                long[] y = theirs.get(k);
                if (x[0] != y[0] || x[1] != y[1] || x[2] * first != y[2] * second) {
                    return HIDDEN;
                }
            }
            return what == 0 ? first : what == 1 ? second : first * volume(solid) - second * volume(other);
        }

        /** The box behind a STEP, null if it can't be. */
        static int[] after(int[] sides, int i, int j, int n) {
            if (i == j || sides[i] % n != 0 || sides[j] % (n - 1) != 0) {
                return null;
            }
            int[] next = sides.clone();
            next[i] = sides[i] - sides[i] / n;
            next[j] = sides[j] + sides[j] / (n - 1);
            return next[j] > 24 ? null : next;
        }

        /** Goes from the goal back, then the first STEP that comes nearer; so other than by first come. */
        int plan(int[] s) {
            for (int side : s) {
                if (side < 1 || side > 24) {
                    return -2;
                }
            }
            if (s[0] * s[1] * s[2] > 1728) {
                return -2;
            }
            if (s[0] * s[1] * s[2] != s[3] * s[4] * s[5]) {
                return -3;
            }
            int[] far = distances(s[0] * s[1] * s[2], new int[] {s[3], s[4], s[5]});
            int[] at = {s[0], s[1], s[2]};
            if (far[at[0] * 25 + at[1]] < 0) {
                return NONE;
            }
            List<int[]> steps = new ArrayList<>();
            while (far[at[0] * 25 + at[1]] > 0) {
                int[] found = null;
                for (int k = 0; k < 9 * 25 && found == null; k++) {
                    int n = k % 25;
                    int[] next = n < 2 ? null : after(at, k / 75, k / 25 % 3, n);
                    if (next != null && far[next[0] * 25 + next[1]] == far[at[0] * 25 + at[1]] - 1) {
                        found = new int[] {k / 75, k / 25 % 3, n};
                        at = next;
                    }
                }
                steps.add(found);
            }
            plan = steps;
            box = Arrays.copyOf(s, 3);
            return plan.size();
        }

        /** How many STEPS each box of that volume is ahead of the goal, -1: none lead there; by rounds till nothing changes. */
        static int[] distances(int volume, int[] goal) {
            int[] far = new int[25 * 25];
            Arrays.fill(far, -1);
            far[goal[0] * 25 + goal[1]] = 0;
            boolean changed = true;
            for (int round = 1; changed; round++) {
                changed = false;
                for (int a = 1; a <= 24; a++) {
                    for (int b = 1; b <= 24; b++) {
                        boolean open = volume % (a * b) == 0 && volume / (a * b) <= 24 && far[a * 25 + b] < 0;
                        if (open && leads(new int[] {a, b, volume / (a * b)}, far, round - 1)) {
                            far[a * 25 + b] = round;
                            changed = true;
                        }
                    }
                }
            }
            return far;
        }

        static boolean leads(int[] sides, int[] far, int to) {
            for (int k = 0; k < 9; k++) {
                for (int n = 2; n <= 24; n++) {
                    int[] next = after(sides, k / 3, k % 3, n);
                    if (next != null && far[next[0] * 25 + next[1]] == to) {
                        return true;
                    }
                }
            }
            return false;
        }

        int step(int i, int what) {
            return plan == null || i < 0 || i >= plan.size() || what < 0 || what > 2 ? HIDDEN : plan.get(i)[what];
        }

        boolean reaches(int i) {
            return plan != null && i >= 0 && i <= plan.size();
        }

        int[] sides(int i) {
            int[] sides = box.clone();
            for (int k = 0; k < i; k++) {
                sides = after(sides, plan.get(k)[0], plan.get(k)[1], plan.get(k)[2]);
            }
            return sides;
        }

        int side(int i, int axis) {
            return !reaches(i) || axis < 0 || axis > 2 ? HIDDEN : sides(i)[axis];
        }

        int[] spot(int x, int y, int z, int i) {
            int[] spot = {x, y, z};
            for (int k = 0; k < i; k++) {
                int[] s = plan.get(k);
                int[] sides = sides(k);
                int partI = sides[s[0]] / s[2];
                int partJ = sides[s[1]] / (s[2] - 1);
                if (spot[s[0]] / partI + spot[s[1]] / partJ >= s[2] - 1) {
                    spot[s[0]] -= partI;
                    spot[s[1]] += partJ;
                }
            }
            return spot;
        }

        int cube(int x, int y, int z, int i, int axis) {
            if (!reaches(i) || axis < 0 || axis > 2 || x < 0 || y < 0 || z < 0 || x >= box[0] || y >= box[1] || z >= box[2]) {
                return HIDDEN;
            }
            return spot(x, y, z, i)[axis];
        }

        int pieces(int i) {
            if (!reaches(i)) {
                return HIDDEN;
            }
            Set<String> ways = new HashSet<>();
            Set<String> spots = new HashSet<>();
            for (int x = 0; x < box[0]; x++) {
                for (int y = 0; y < box[1]; y++) {
                    for (int z = 0; z < box[2]; z++) {
                        int[] spot = spot(x, y, z, i);
                        spots.add(Arrays.toString(spot));
                        ways.add((spot[0] - x) + "," + (spot[1] - y) + "," + (spot[2] - z));
                    }
                }
            }
            if (spots.size() != box[0] * box[1] * box[2]) {
                throw new IllegalStateException("two cubes in one place");
            }
            return ways.size();
        }

        int most(int what) {
            int answer = 0;
            for (int s = 0; s < 4; s++) {
                for (long[] term : terms(s)) {
                    answer = what < 2 && what >= 0 ? Math.max(answer, (int) term[what]) : answer;
                }
                answer += what == 2 ? tetsOf(s) * 6 - odd(s) : 0;
                answer += what == 5 && terms(s).isEmpty() ? 1 << s : 0;
                for (int o = 0; o < s; o++) {
                    answer += what == 6 && tetsOf(s) > 0 && tetsOf(o) > 0 && alike(s, o) == 0 ? 1 : 0;
                }
            }
            for (int t = 0; t < tets.size(); t++) {
                answer = what == 3 ? Math.max(answer, tets.get(t).six()) : answer;
                answer += what == 4 && points(t) > 4 ? 1 : 0;
            }
            return what < 0 || what > 6 ? HIDDEN : answer;
        }
    }
}
