import java.util.HashSet;
import java.util.Set;

/** The sentences about PLANS, STEPS and CUBES that name a boundary, each on both sides of it. */
public final class PlanBoundsTest extends Checks {
    private static final int[] WRONG = {-1, LEAST, GREATEST};

    public static void main(String[] args) {
        sides();
        volumes();
        noPlan();
        planStays();
        sidesStay24();
        stepNumbers();
        divided();
        fewest();
        firstOfFewest();
        longest();
        stepBounds();
        sideBounds();
        cubeBounds();
        cubeParts();
        cubesFill();
        pieceBounds();
        pieceCounts();
        close("PlanBoundsTest");
    }

    private static int plan(ScissorsTable table, int... s) {
        return table.plan(s[0], s[1], s[2], s[3], s[4], s[5]);
    }

    private static void sides() {
        says("A PLAN from a box of sides A, B, C (1 .. 24 each, whole; A B C 1,728 at most)");
        says("A PLAN: how many STEPS (0: the sides are so). -2 (a side)");
        for (int place = 0; place < 6; place++) {
            for (int side : new int[] {LEAST, -24, -1, 0, 1, 2, 23, 24, 25, 26, 1 << 16, GREATEST}) {
                int[] s = {1, 1, 1, 1, 1, 1};
                s[place] = side;
                boolean bad = side < 1 || side > 24;
                due("side " + place + " is " + side, plan(new ScissorsTable(), s), bad ? -2 : side == 1 ? 0 : -3);
                s[(place + 3) % 6] = side;
                due("both are " + side, plan(new ScissorsTable(), s), bad ? -2 : 0);
            }
        }
        due("two wrong ones", plan(new ScissorsTable(), -1, -1, 1, 1, 1, 1), -2);
        due("wrap-around", plan(new ScissorsTable(), 1 << 16, 1 << 16, 1, 1, 1, 1), -2);
        // 12 by 12 by 12, 24 by 24 by 3 are just 1,728; 7 by 13 by 19 is one more; 23 by 15 by 5 is 1,725.
        due("1,725", plan(new ScissorsTable(), 23, 15, 5, 23, 15, 5), 0);
        due("1,728", plan(new ScissorsTable(), 12, 12, 12, 12, 12, 12), 0);
        due("1,728", plan(new ScissorsTable(), 24, 24, 3, 24, 24, 3), 0);
        due("1,728", plan(new ScissorsTable(), 24, 3, 24, 3, 24, 24), 3);
        due("1,729", plan(new ScissorsTable(), 7, 13, 19, 7, 13, 19), -2);
        due("1,729", plan(new ScissorsTable(), 19, 7, 13, 7, 13, 19), -2);
        due("13,824", plan(new ScissorsTable(), 24, 24, 24, 24, 24, 24), -2);
        due("1,729 to 1,728", plan(new ScissorsTable(), 7, 13, 19, 12, 12, 12), -2);
    }

    private static void volumes() {
        says("-3 (volumes are unlike)");
        due("8 to 8", plan(new ScissorsTable(), 2, 2, 2, 1, 4, 2), 1);
        due("8 to 7", plan(new ScissorsTable(), 2, 2, 2, 1, 7, 1), -3);
        due("8 to 9", plan(new ScissorsTable(), 2, 2, 2, 3, 3, 1), -3);
        due("1 to 2", plan(new ScissorsTable(), 1, 1, 1, 1, 1, 2), -3);
        due("1,728 to 1,725", plan(new ScissorsTable(), 12, 12, 12, 23, 15, 5), -3);
        due("1,728 to 1,729", plan(new ScissorsTable(), 12, 12, 12, 7, 13, 19), -3);
        due("1,728 to 13,824", plan(new ScissorsTable(), 12, 12, 12, 24, 24, 24), -3);
    }

    private static void noPlan() {
        says("NONE: there is none");
        due("7 by no N", plan(new ScissorsTable(), 1, 1, 7, 7, 1, 1), NONE);
        due("7 the other way", plan(new ScissorsTable(), 7, 1, 1, 1, 7, 1), NONE);
        due("7 as it is", plan(new ScissorsTable(), 7, 1, 1, 7, 1, 1), 0);
        due("6 can", plan(new ScissorsTable(), 6, 1, 1, 1, 6, 1), 3);
        due("5 can't", plan(new ScissorsTable(), 5, 1, 1, 1, 5, 1), NONE);
        due("2 can", plan(new ScissorsTable(), 2, 1, 1, 1, 2, 1), 1);
        due("1 is so", plan(new ScissorsTable(), 1, 1, 1, 1, 1, 1), 0);
    }

    private static void planStays() {
        says("(the PLAN ahead stays, whatever is refused)");
        int[][] refused = {{0, 1, 1, 1, 1, 1}, {1, 1, 1, 1, 1, 25}, {7, 13, 19, 7, 13, 19}, {2, 2, 2, 2, 2, 3}, {1, 1, 7, 7, 1, 1}};
        int[] answers = {-2, -2, -2, -3, NONE};
        for (int k = 0; k < refused.length; k++) {
            ScissorsTable table = new ScissorsTable();
            due("refused", plan(table, refused[k]), answers[k]);
            due("still none", table.count(3), NONE);
            due("still none", table.side(0, 0), HIDDEN);
            table.plan(4, 1, 3, 1, 4, 3);
            due("refused", plan(table, refused[k]), answers[k]);
            due("two STEPS stay", table.count(3), 2);
            stepIs(table, 0, 0, 1, 2);
            stepIs(table, 1, 0, 1, 2);
            due("its first side", table.side(0, 0), 4);
            due("its last side", table.side(2, 1), 4);
            due("its CUBES", table.cube(3, 0, 2, 2, 1), 3);
            due("its pieces", table.pieces(2), 4);
            due("another PLAN", table.plan(3, 3, 3, 3, 3, 3), 0);
            due("the old one is gone", table.step(0, 0), HIDDEN);
            due("its sides", table.side(0, 0), 3);
        }
    }

    private static void sidesStay24() {
        says("sides stay 24 at most");
        // By a side of 25 three STEPS would do: there is no other way.
        due("not by 25", plan(new ScissorsTable(), 7, 10, 20, 10, 7, 20), NONE);
        // By a side of 25 four, else five.
        due("not by 25", plan(new ScissorsTable(), 1, 5, 20, 5, 1, 20), 5);
        // By a side of 24 two, else three.
        ScissorsTable table = new ScissorsTable();
        due("by 24", plan(table, 1, 12, 22, 1, 22, 12), 2);
        due("24", table.side(1, 2), 24);
        for (int from = 0; from < 3; from++) {
            for (int to = 0; to < 3; to++) {
                int[] s = {2, 2, 2, 2, 2, 2};
                s[from] = 24;
                s[3 + to] = 24;
                int steps = plan(table, s);
                due("24 from " + from + " to " + to, steps, from == to ? 0 : 4);
                for (int i = 0; i <= steps; i++) {
                    for (int axis = 0; axis < 3; axis++) {
                        due("a side of it", table.side(i, axis) >= 1 && table.side(i, axis) <= 24, true);
                    }
                }
            }
        }
    }

    private static void stepNumbers() {
        says("STEPS: two axes I, J unlike (0 .. 2) and N (2 .. 24)");
        ScissorsTable table = new ScissorsTable();
        for (int k = 0; k < 9; k++) {
            int i = k / 3;
            int j = k % 3;
            if (i != j) {
                for (int n = 2; n <= 24; n++) {
                    // N by N less 1: one STEP, whose N is as told.
                    int[] s = {1, 1, 1, 1, 1, 1};
                    s[i] = n;
                    s[j] = n - 1;
                    s[3 + i] = n - 1;
                    s[3 + j] = n;
                    due("N " + n, plan(table, s), 1);
                    stepIs(table, 0, i, j, n);
                    table = new ScissorsTable();
                }
            }
        }
    }

    private static void divided() {
        says("side I can be divided by N, side J by N less 1: cut in stairs of N less 1 heights and pushed on by one stair, "
                + "side I is N less 1 of its N parts, side J has one part of its N less 1 more");
        ScissorsTable table = new ScissorsTable();
        due("3 of 9, 2 of 8", plan(table, 9, 8, 1, 6, 12, 1), 1);
        stepIs(table, 0, 0, 1, 3);
        due("9 of 9, 8 of 8", plan(table, 9, 8, 1, 8, 9, 1), 1);
        stepIs(table, 0, 0, 1, 9);
        due("no N by which both can be divided", plan(table, 9, 5, 1, 5, 9, 1), NONE);
        // 10 by 3: N 2 alone, as 5 and 10 lack 4 and 9 of 3.
        due("N 2", plan(table, 10, 3, 1, 5, 6, 1), 1);
        due("N 5", plan(table, 10, 4, 1, 8, 5, 1), 1);
        due("N 5 not of 3", plan(table, 10, 3, 1, 8, 3, 1), -3);
    }

    private static void fewest() {
        says("The PLAN has fewest STEPS");
        ScissorsTable table = new ScissorsTable();
        // By I 0 first three would do, too.
        due("one", plan(table, 2, 2, 1, 2, 1, 2), 1);
        stepIs(table, 0, 1, 2, 2);
        due("one of N 4", plan(table, 12, 12, 12, 9, 16, 12), 1);
        stepIs(table, 0, 0, 1, 4);
        due("three of N 2", plan(table, 3, 24, 24, 24, 24, 3), 3);
        due("five", plan(table, 24, 1, 1, 1, 24, 1), 5);
        due("back", plan(table, 1, 24, 1, 24, 1, 1), 5);
    }

    private static void firstOfFewest() {
        says("of these the first, STEP by STEP by I, J, N");
        ScissorsTable table = new ScissorsTable();
        // By N: 2 then 3, though 3 then 2 comes to the same.
        due("by N", plan(table, 12, 2, 1, 4, 6, 1), 2);
        stepIs(table, 0, 0, 1, 2);
        stepIs(table, 1, 0, 1, 3);
        // By J: 1 ahead of 2.
        due("by J", plan(table, 4, 1, 1, 1, 2, 2), 2);
        stepIs(table, 0, 0, 1, 2);
        stepIs(table, 1, 0, 2, 2);
        // By I: 0 ahead of 2, 1 ahead of 2 though its N is the greater one.
        due("by I", plan(table, 2, 1, 2, 1, 4, 1), 2);
        stepIs(table, 0, 0, 1, 2);
        stepIs(table, 1, 2, 1, 2);
        due("by I", plan(table, 1, 12, 22, 1, 22, 12), 2);
        stepIs(table, 0, 1, 2, 12);
        stepIs(table, 1, 2, 1, 2);
        due("by I", plan(table, 9, 8, 24, 24, 9, 8), 3);
        stepIs(table, 0, 0, 1, 9);
        stepIs(table, 1, 2, 0, 2);
        stepIs(table, 2, 2, 0, 3);
    }

    /** The longest PLAN of all: twelve STEPS. */
    private static void longest() {
        says("Of a STEP of the PLAN: I (0), J (1), N (2). HIDDEN: no such ones.");
        ScissorsTable table = new ScissorsTable();
        due("twelve", plan(table, 1, 21, 22, 11, 7, 6), 12);
        due("count(3)", table.count(3), 12);
        int[] steps = {2, 0, 2, 1, 0, 3, 1, 0, 2, 1, 0, 7, 1, 0, 2, 1, 0, 3, 1, 2, 2, 2, 0, 22, 0, 1, 2, 2, 1, 3, 2, 1, 2, 2, 1, 7};
        for (int k = 0; k < steps.length; k++) {
            due("step(" + k / 3 + ", " + k % 3 + ")", table.step(k / 3, k % 3), steps[k]);
        }
        due("behind the last", table.step(12, 0), HIDDEN);
        int[] sides = {1, 21, 22, 2, 21, 11, 3, 14, 11, 6, 7, 11, 7, 6, 11, 14, 3, 11, 21, 2, 11, 21, 1, 22, 22, 1, 21, 11, 2, 21, 11, 3, 14, 11, 6, 7, 11, 7, 6};
        for (int k = 0; k < sides.length; k++) {
            due("side(" + k / 3 + ", " + k % 3 + ")", table.side(k / 3, k % 3), sides[k]);
        }
        due("behind the last", table.side(13, 0), HIDDEN);
        int[] pieces = {1, 2, 4, 6, 12, 18, 30, 42, 62, 62, 82, 104, 168};
        for (int i = 0; i < pieces.length; i++) {
            due("pieces(" + i + ")", table.pieces(i), pieces[i]);
        }
        due("behind the last", table.pieces(13), HIDDEN);
    }

    private static ScissorsTable two() {
        ScissorsTable table = new ScissorsTable();
        due("two STEPS", table.plan(4, 1, 3, 1, 4, 3), 2);
        return table;
    }

    private static void stepBounds() {
        says("Of a STEP of the PLAN: I (0), J (1), N (2). HIDDEN: no such ones.");
        int[] want = {0, 1, 2};
        for (int i = -1; i <= 2; i++) {
            for (int what = -1; what <= 3; what++) {
                boolean is = i >= 0 && i < 2 && what >= 0 && what < 3;
                due("step(" + i + ", " + what + ")", two().step(i, what), is ? want[what] : HIDDEN);
                due("no PLAN", new ScissorsTable().step(i, what), HIDDEN);
            }
        }
        for (int bad : WRONG) {
            due("no such STEP", two().step(bad, 0), HIDDEN);
            due("no such what", two().step(0, bad), HIDDEN);
        }
        ScissorsTable none = new ScissorsTable();
        none.plan(2, 3, 4, 2, 3, 4);
        due("a PLAN of no STEPS", none.step(0, 0), HIDDEN);
    }

    private static void sideBounds() {
        says("A side (axis 0 .. 2) behind i STEPS (0: ahead of all). HIDDEN: no such ones.");
        int[][] want = {{4, 1, 3}, {2, 2, 3}, {1, 4, 3}};
        for (int i = -1; i <= 3; i++) {
            for (int axis = -1; axis <= 3; axis++) {
                boolean is = i >= 0 && i < 3 && axis >= 0 && axis < 3;
                due("side(" + i + ", " + axis + ")", two().side(i, axis), is ? want[i][axis] : HIDDEN);
                due("no PLAN", new ScissorsTable().side(i, axis), HIDDEN);
            }
        }
        for (int bad : WRONG) {
            due("no such STEP", two().side(bad, 0), HIDDEN);
            due("no such axis", two().side(0, bad), HIDDEN);
        }
        ScissorsTable none = new ScissorsTable();
        none.plan(2, 3, 4, 2, 3, 4);
        due("ahead of all", none.side(0, 2), 4);
        due("no STEP", none.side(1, 2), HIDDEN);
    }

    private static void cubeBounds() {
        says("Where a CUBE lies behind i STEPS, by an axis. HIDDEN: no such ones.");
        says("CUBES of the box: by X, Y, Z from 0 on.");
        // The box that the PLAN is from, not what it is behind the STEPS, says which CUBES there are.
        int[] sides = {4, 1, 3};
        for (int x = -1; x <= 4; x++) {
            for (int y = -1; y <= 4; y++) {
                for (int z = -1; z <= 3; z++) {
                    ScissorsTable table = two();
                    for (int i = -1; i <= 3; i++) {
                        boolean is = x >= 0 && x < sides[0] && y >= 0 && y < sides[1] && z >= 0 && z < sides[2] && i >= 0 && i <= 2;
                        for (int axis = -1; axis <= 3; axis++) {
                            boolean told = table.cube(x, y, z, i, axis) != HIDDEN;
                            due("cube(" + x + ", " + y + ", " + z + ", " + i + ", " + axis + ") told", told, is && axis >= 0 && axis < 3);
                        }
                    }
                }
            }
        }
        ScissorsTable table = two();
        for (int bad : WRONG) {
            due("no such X", table.cube(bad, 0, 0, 0, 0), HIDDEN);
            due("no such Y", table.cube(0, bad, 0, 0, 0), HIDDEN);
            due("no such Z", table.cube(0, 0, bad, 0, 0), HIDDEN);
            due("no such STEP", table.cube(0, 0, 0, bad, 0), HIDDEN);
            due("no such axis", table.cube(0, 0, 0, 0, bad), HIDDEN);
        }
        due("no PLAN", new ScissorsTable().cube(0, 0, 0, 0, 0), HIDDEN);
    }

    private static void cubeParts() {
        says("if K and L, added, are N less 1 or more, it goes one part back by I and one part on by J "
                + "(a part of I: side I by N; of J: side J by N less 1); else it stays");
        int[][] plans = {{9, 8, 2, 6, 12, 2, 0, 1, 3}, {12, 1, 9, 9, 1, 12, 0, 2, 4}, {1, 4, 2, 1, 2, 4, 1, 2, 2}, {2, 24, 23, 2, 23, 24, 1, 2, 24},
            {4, 2, 6, 6, 2, 4, 2, 0, 3}};
        for (int[] p : plans) {
            ScissorsTable table = new ScissorsTable();
            due("one STEP", plan(table, p), 1);
            stepIs(table, 0, p[6], p[7], p[8]);
            int partI = p[p[6]] / p[8];
            int partJ = p[p[7]] / (p[8] - 1);
            for (int atI = 0; atI < p[p[6]]; atI++) {
                // A new object, so that none has more calls than it may.
                table = new ScissorsTable();
                plan(table, p);
                for (int atJ = 0; atJ < p[p[7]]; atJ++) {
                    int[] cube = {0, 0, 0};
                    cube[p[6]] = atI;
                    cube[p[7]] = atJ;
                    boolean goes = atI / partI + atJ / partJ >= p[8] - 1;
                    due("by I", table.cube(cube[0], cube[1], cube[2], 1, p[6]), goes ? atI - partI : atI);
                    due("by J", table.cube(cube[0], cube[1], cube[2], 1, p[7]), goes ? atJ + partJ : atJ);
                    due("by the third", table.cube(cube[0], cube[1], cube[2], 1, 3 - p[6] - p[7]), 0);
                    due("ahead of all", table.cube(cube[0], cube[1], cube[2], 0, p[6]), atI);
                }
            }
        }
    }

    /** No two CUBES come to one place, and none beyond the box; as many ways as pieces. */
    private static void cubesFill() {
        says("How many pieces there are behind i STEPS: CUBES that went alike (each axis by as much) are one.");
        int[][] plans = {{4, 1, 3, 1, 4, 3}, {6, 6, 2, 4, 9, 2}, {1, 6, 8, 8, 6, 1}, {2, 3, 8, 8, 2, 3}, {5, 4, 2, 4, 5, 2}, {3, 4, 6, 4, 3, 6}};
        for (int[] p : plans) {
            ScissorsTable table = new ScissorsTable();
            int steps = plan(table, p);
            due("a PLAN", steps > 0, true);
            for (int i = 0; i <= steps; i++) {
                Set<Integer> places = new HashSet<>();
                Set<Integer> ways = new HashSet<>();
                for (int x = 0; x < p[0]; x++) {
                    for (int y = 0; y < p[1]; y++) {
                        // A new object, so that none has more calls than it may.
                        ScissorsTable one = new ScissorsTable();
                        plan(one, p);
                        for (int z = 0; z < p[2]; z++) {
                            int[] at = {one.cube(x, y, z, i, 0), one.cube(x, y, z, i, 1), one.cube(x, y, z, i, 2)};
                            for (int axis = 0; axis < 3; axis++) {
                                due("within the box", at[axis] >= 0 && at[axis] < one.side(i, axis), true);
                            }
                            places.add((at[0] * 100 + at[1]) * 100 + at[2]);
                            ways.add(((at[0] - x + 50) * 100 + at[1] - y + 50) * 100 + at[2] - z + 50);
                        }
                    }
                }
                due("places", places.size(), p[0] * p[1] * p[2]);
                due("pieces(" + i + ")", table.pieces(i), ways.size());
            }
        }
    }

    private static void pieceBounds() {
        says("(each axis by as much) are one. HIDDEN: no such ones.");
        ScissorsTable table = two();
        int[] want = {HIDDEN, 1, 2, 4, HIDDEN};
        for (int i = -1; i <= 3; i++) {
            due("pieces(" + i + ")", table.pieces(i), want[i + 1]);
            due("no PLAN", new ScissorsTable().pieces(i), HIDDEN);
        }
        for (int bad : WRONG) {
            due("pieces(" + bad + ")", table.pieces(bad), HIDDEN);
        }
        ScissorsTable none = new ScissorsTable();
        none.plan(12, 12, 12, 12, 12, 12);
        due("one piece", none.pieces(0), 1);
        due("no STEP", none.pieces(1), HIDDEN);
    }

    private static void pieceCounts() {
        says("CUBES that went alike (each axis by as much) are one");
        // As far as can be, by each axis and both ways: 24 places are 24 ways.
        for (int k = 0; k < 9; k++) {
            int[] s = {1, 1, 1, 1, 1, 1};
            s[k / 3] = 24;
            s[3 + k % 3] = 24;
            ScissorsTable table = new ScissorsTable();
            int steps = plan(table, s);
            due("24 places", table.pieces(steps), k % 4 == 0 ? 1 : 24);
            due("again", table.pieces(steps), k % 4 == 0 ? 1 : 24);
            due("ahead of all", table.pieces(0), 1);
        }
        int[][] plans = {{5, 16, 21, 16, 21, 5}, {9, 8, 24, 24, 9, 8}, {24, 24, 3, 12, 12, 12}, {16, 9, 12, 12, 16, 9}, {1, 12, 22, 11, 12, 2},
            {5, 4, 19, 20, 19, 1}, {1, 1, 6, 3, 2, 1}, {1, 12, 12, 3, 3, 16}, {1, 17, 18, 17, 2, 9}};
        int[] want = {16, 8, 4, 4, 44, 160, 6, 6, 62};
        for (int k = 0; k < plans.length; k++) {
            ScissorsTable table = new ScissorsTable();
            int steps = plan(table, plans[k]);
            due("pieces", table.pieces(steps), want[k]);
        }
    }
}
