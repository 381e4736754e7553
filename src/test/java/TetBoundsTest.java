import java.util.ArrayList;
import java.util.List;

/** The sentences about TETS, their points, cuts and ways that name a boundary, each on both sides of it. */
public final class TetBoundsTest extends Checks {
    private static final int[] WRONG = {-1, LEAST, GREATEST};
    /** The six orders of X, Y, Z. */
    private static final int[][] ORDERS = {{0, 1, 2}, {0, 2, 1}, {1, 0, 2}, {1, 2, 0}, {2, 0, 1}, {2, 1, 0}};

    public static void main(String[] args) {
        tetBounds();
        cornerBounds();
        whereClasses();
        whereBeyond();
        cutWhere();
        cutOrder();
        cutBeyond();
        cutFull();
        joinBetween();
        joinPlaces();
        joinNumbers();
        joinRefused();
        turnBounds();
        turnOrders();
        moveBounds();
        moveNumbers();
        giveBounds();
        dropBounds();
        nothingChanges();
        refusedFirst();
        pointsBounds();
        lastOf48();
        fairestBounds();
        fairestTies();
        cutsToBounds();
        cutsToForty();
        close("TetBoundsTest");
    }

    private static void tetBounds() {
        says("Of a TET: 0 its SOLID, 1 SIX. NoSuchElementException: no such ones.");
        ScissorsTable table = told(RIGHT + ";" + EVEN_SIDED + ";t3:0,0,0/2,0,0/0,3,0/0,0,5");
        due("the first", table.tet(0, 0), 0);
        due("the last", table.tet(2, 0), 3);
        due("SIX of the first", table.tet(0, 1), 1);
        due("SIX of the last", table.tet(2, 1), 30);
        for (int bad : new int[] {-1, 3, 4, 47, 48, LEAST, GREATEST}) {
            due("tet(" + bad + ", 0) throws", tetThrows(table, bad, 0), true);
            due("tet(" + bad + ", 1) throws", tetThrows(table, bad, 1), true);
        }
        for (int bad : new int[] {-1, 2, LEAST, GREATEST}) {
            due("tet(0, " + bad + ") throws", tetThrows(table, 0, bad), true);
            due("tet(2, " + bad + ") throws", tetThrows(table, 2, bad), true);
        }
        table.drop(0);
        due("two are left", tetThrows(table, 1, 0), false);
        due("two are left", tetThrows(table, 2, 0), true);
        due("none", tetThrows(new ScissorsTable(), 0, 0), true);
    }

    private static void cornerBounds() {
        says("Of a CORNER (0 .. 3) of a TET X, Y, Z (axis 0, 1, 2). HIDDEN: no such ones.");
        ScissorsTable table = told(RIGHT + ";t0:1,2,3/-4,5,6/7,8,-9/0,1,0");
        for (int corner = -1; corner <= 4; corner++) {
            for (int axis = -1; axis <= 3; axis++) {
                boolean is = corner >= 0 && corner <= 3 && axis >= 0 && axis <= 2;
                int want = is ? new int[] {1, 2, 3, -4, 5, 6, 7, 8, -9, 0, 1, 0}[corner * 3 + axis] : HIDDEN;
                due("corner(1, " + corner + ", " + axis + ")", table.corner(1, corner, axis), want);
                due("corner(2, ..)", table.corner(2, corner, axis), HIDDEN);
                due("corner(-1, ..)", table.corner(-1, corner, axis), HIDDEN);
            }
        }
        for (int bad : WRONG) {
            due("no such TET", table.corner(bad, 0, 0), HIDDEN);
            due("no such CORNER", table.corner(0, bad, 0), HIDDEN);
            due("no such axis", table.corner(0, 0, bad), HIDDEN);
        }
    }

    /** X, Y, Z and where it lies by OF_4. */
    private static final int[][] PLACES = {
        {0, 0, 0, 1}, {4, 0, 0, 1}, {0, 4, 0, 1}, {0, 0, 4, 1},
        {1, 0, 0, 2}, {3, 0, 0, 2}, {0, 2, 0, 2}, {0, 0, 1, 2}, {3, 1, 0, 2}, {1, 0, 3, 2}, {0, 2, 2, 2},
        {1, 1, 0, 3}, {1, 0, 1, 3}, {0, 1, 1, 3}, {1, 1, 2, 3}, {2, 1, 1, 3}, {1, 2, 1, 3}, {2, 1, 0, 3},
        {1, 1, 1, 4},
        {-1, 0, 0, 0}, {0, -1, 0, 0}, {0, 0, -1, 0}, {5, 0, 0, 0}, {0, 5, 0, 0}, {0, 0, 5, 0}, {4, 1, 0, 0}, {4, 0, -1, 0},
        {1, 1, -1, 0}, {1, -1, 1, 0}, {-1, 1, 1, 0}, {2, 2, 1, 0}, {1, 1, 3, 0}, {4, 4, 4, 0}, {-1, -1, 6, 0}, {9, 9, 9, 0}
    };

    private static int[] turned(int[] place, int by) {
        int[] now = new int[3];
        for (int axis = 0; axis < 3; axis++) {
            int number = place[ORDERS[by / 8][axis]];
            now[axis] = by % 8 / (1 << axis) % 2 == 1 ? -number : number;
        }
        return now;
    }

    private static void whereClasses() {
        says("Where a point lies by a TET: 0 beyond it, 1 at a CORNER, 2 on an EDGE, 3 on a face, 4 within.");
        for (int by = 0; by < 48; by++) {
            ScissorsTable table = told(RIGHT + ";" + OF_4 + ";" + EVEN_SIDED);
            table.turn(1, by);
            for (int[] place : PLACES) {
                int[] p = turned(place, by);
                due("where by turn " + by + " of " + place[0] + "," + place[1] + "," + place[2], table.where(1, p[0], p[1], p[2]), place[3]);
            }
        }
        says("NONE: no such TET.");
        ScissorsTable table = told(OF_4);
        due("where(0, ..)", table.where(0, 0, 0, 0), 1);
        due("where(1, ..)", table.where(1, 0, 0, 0), NONE);
        due("where(-1, ..)", table.where(-1, 0, 0, 0), NONE);
        due("of none", new ScissorsTable().where(0, 0, 0, 0), NONE);
        for (int bad : WRONG) {
            due("where(" + bad + ", ..)", table.where(bad, 99, 0, 0), NONE);
        }
    }

    private static void whereBeyond() {
        says("0 beyond it");
        ScissorsTable table = told("t0:9,9,9/-9,9,9/9,-9,9/9,9,-9;t0:-9,-9,-9/9,-9,-9/-9,9,-9/-9,-9,9");
        for (int tet = 0; tet < 2; tet++) {
            int far = tet == 0 ? 9 : -9;
            int step = tet == 0 ? 1 : -1;
            due("at the CORNER", table.where(tet, far, far, far), 1);
            due("beyond by X", table.where(tet, far + step, far, far), 0);
            due("beyond by Y", table.where(tet, far, far + step, far), 0);
            due("beyond by Z", table.where(tet, far, far, far + step), 0);
            due("on the EDGE", table.where(tet, -far + step, far, far), 2);
            due("the far CORNER", table.where(tet, -far, far, far), 1);
            due("beyond the far CORNER", table.where(tet, -far - step, far, far), 0);
        }
        // Points so far off that products of ints wrap around.
        for (int far : new int[] {1 << 16, 1 << 24, 1 << 28, 1 << 29, 1 << 30, LEAST, GREATEST, LEAST + 9}) {
            due("far by X", table.where(0, far, 9, 9), 0);
            due("far by Y", table.where(0, 9, far, 9), 0);
            due("far by Z", table.where(0, 9, 9, far), 0);
            due("far by all", table.where(1, far, far, far), 0);
            due("far by two", table.where(1, far, -far, -9), 0);
        }
    }

    private static void cutWhere() {
        says("A TET is CUT at a point that lies in it, but at no CORNER");
        says("CUT: how many TETS there are of it. -1, -2 (the point), -3 (it lies beyond, at a CORNER), -4.");
        for (int[] place : PLACES) {
            ScissorsTable table = told(OF_4);
            int want = place[3] >= 2 ? place[3] : -3;
            due("cut at " + place[0] + "," + place[1] + "," + place[2], table.cut(0, place[0], place[1], place[2]), want);
            due("count(0)", table.count(0), want < 0 ? 1 : want);
            due("volume", table.solid(0, 0), 64);
            due("SUM", table.much(0, 2, 3), 12);
            due("terms of the SUM", table.solid(0, 3), 1);
        }
    }

    private static void cutOrder() {
        says("one behind the other, CORNER by CORNER, it is taken with the point in place of that CORNER, as far as that is a TET: "
                + "the first one is in its place, the others come behind all TETS");
        int[] corners = {0, 0, 0, 4, 0, 0, 0, 4, 0, 0, 0, 4};
        for (int[] place : PLACES) {
            if (place[3] < 2) {
                continue;
            }
            ScissorsTable table = told(RIGHT + ";" + EVEN_SIDED + ";t2" + OF_4.substring(2) + ";" + RIGHT);
            due("cut", table.cut(2, place[0], place[1], place[2]), place[3]);
            // The share of each CORNER: how far the point is from the face across from it.
            int[] shares = {4 - place[0] - place[1] - place[2], place[0], place[1], place[2]};
            int at = 2;
            for (int corner = 0; corner < 4; corner++) {
                if (shares[corner] > 0) {
                    int[] piece = corners.clone();
                    System.arraycopy(place, 0, piece, corner * 3, 3);
                    cornersAre(table, at, piece);
                    due("SIX", table.tet(at, 1), 16 * shares[corner]);
                    due("SOLID", table.tet(at, 0), 2);
                    at = at == 2 ? 4 : at + 1;
                }
            }
            cornersAre(table, 3, 0, 0, 0, 1, 0, 0, 0, 1, 0, 0, 0, 1);
            cornersAre(table, 1, 0, 0, 0, 1, 1, 0, 1, 0, 1, 0, 1, 1);
        }
    }

    private static void cutBeyond() {
        says("-2 (the point)");
        String[] texts = {"t0:9,9,9/-9,9,9/9,-9,9/9,9,-9", "t0:-9,-9,-9/9,-9,-9/-9,9,-9/-9,-9,9"};
        for (int k = 0; k < 2; k++) {
            int far = k == 0 ? 9 : -9;
            for (int axis = 0; axis < 3; axis++) {
                int[] p = {far, far, far};
                p[axis] = 0;
                due("at " + far, told(texts[k]).cut(0, p[0], p[1], p[2]), 2);
                for (int bad : new int[] {10, -10, 99, LEAST, GREATEST}) {
                    p[axis] = bad;
                    due("point " + bad, told(texts[k]).cut(0, p[0], p[1], p[2]), -2);
                    int[] q = {0, 0, 0};
                    q[axis] = bad;
                    due("point " + bad, told(OF_4).cut(0, q[0], q[1], q[2]), -2);
                }
                p[axis] = -far;
                due("at a CORNER", told(texts[k]).cut(0, p[0], p[1], p[2]), -3);
                int[] q = {0, 0, 0};
                q[axis] = far;
                due("beyond, but within bounds", told(RIGHT).cut(0, q[0], q[1], q[2]), -3);
            }
        }
    }

    private static void cutFull() {
        says("-4 more than 48 TETS.");
        int[][] points = {{1, 0, 0}, {1, 1, 0}, {1, 1, 1}};
        for (int parts = 2; parts <= 4; parts++) {
            int[] p = points[parts - 2];
            ScissorsTable table = told(tets(49 - parts));
            due("just 48 behind it", table.cut(0, p[0], p[1], p[2]), parts);
            due("count(0)", table.count(0), 48);
            for (int count = 50 - parts; count <= 48; count++) {
                table = told(tets(count));
                table.pick(0, 0);
                due(count + " and " + parts + " of one", table.cut(0, p[0], p[1], p[2]), -4);
                due("count(0)", table.count(0), count);
                due("SIX", table.tet(0, 1), 64);
                due("PICKED", table.count(2), 1);
                due("SUM", table.much(0, 2, 3), 12);
            }
        }
        ScissorsTable table = told(tets(48));
        due("beyond, and full", table.cut(0, 3, 3, 3), -3);
        due("out of bounds, and full", table.cut(0, 10, 3, 3), -2);
        due("no such one, and full", table.cut(48, 10, 3, 3), -1);
        table.drop(47);
        due("one was dropped", table.cut(0, 0, 0, 1), 2);
        due("48 again", table.cut(0, 0, 0, 2), -4);
    }

    private static String tet(int[]... corners) {
        StringBuilder text = new StringBuilder("t0");
        for (int k = 0; k < 12; k++) {
            text.append(k == 0 ? ":" : k % 3 == 0 ? "/" : ",").append(corners[k / 3][k % 3]);
        }
        return text.toString();
    }

    private static void joinBetween() {
        says("if what they are together is a TET: one of the three lies between both that are unlike");
        int[] middle = {1, -2, 3};
        int[] third = {2, 2, 3};
        int[] fourth = {1, -1, 7};
        int[] own = {3, -2, 4};
        for (int x = -8; x <= 8; x++) {
            for (int y = -1; y <= 1; y++) {
                for (int z = -4; z <= 4; z++) {
                    int[] other = {1 + x, -2 + y, 3 + z};
                    String text = tet(own, middle, third, fourth) + ";" + tet(other, middle, third, fourth);
                    ScissorsTable table = written(text);
                    table.text();
                    boolean same = x == 2 && y == 0 && z == 1;
                    if (table.count(0) < 2 || same) {
                        continue;
                    }
                    // The line through both: twice as much by X as by Z, the middle between if it is on the other side.
                    boolean joins = y == 0 && x == 2 * z && z < 0;
                    int six = table.solid(0, 0);
                    due("join with " + x + "," + y + "," + z, table.join(0, 1), joins ? 0 : -3);
                    due("count(0)", table.count(0), joins ? 1 : 2);
                    due("volume", table.solid(0, 0), six);
                }
            }
        }
    }

    private static List<int[]> orders() {
        List<int[]> all = new ArrayList<>();
        for (int k = 0; k < 256; k++) {
            int[] order = {k / 64, k / 16 % 4, k / 4 % 4, k % 4};
            if ((1 << order[0] | 1 << order[1] | 1 << order[2] | 1 << order[3]) == 15) {
                all.add(order);
            }
        }
        return all;
    }

    private static void joinPlaces() {
        says("it goes, the TET of lower number is that (its own unlike CORNER where it was, the other TET's in place of the one that goes)");
        // The own unlike CORNER, the one that goes, two more.
        int[][] low = {{4, 0, 0}, {1, 0, 0}, {0, 4, 0}, {0, 0, 4}};
        int[][] high = {{-2, 0, 0}, {1, 0, 0}, {0, 4, 0}, {0, 0, 4}};
        for (int[] one : orders()) {
            for (int[] other : orders()) {
                String first = tet(low[one[0]], low[one[1]], low[one[2]], low[one[3]]);
                String second = tet(high[other[0]], high[other[1]], high[other[2]], high[other[3]]);
                ScissorsTable table = told(first + ";" + second);
                due("join", other[0] < 2 ? table.join(0, 1) : table.join(1, 0), 0);
                int[] want = new int[12];
                for (int k = 0; k < 12; k++) {
                    int which = one[k / 3];
                    want[k] = which == 1 ? high[0][k % 3] : low[which][k % 3];
                }
                cornersAre(table, 0, want);
                due("SIX", table.tet(0, 1), 6 * 16);
            }
        }
    }

    private static void joinNumbers() {
        says("the other TET is gone (those behind it come up)");
        String one = "t0:4,0,0/0,0,0/0,4,0/0,0,4";
        String other = "t0:-2,0,0/0,0,0/0,4,0/0,0,4";
        String far = ":5,6,7/6,6,7/5,7,7/5,6,8";
        String[] small = {"t1" + far, "t2" + far, "t3" + far};
        for (int k = 0; k < 2; k++) {
            ScissorsTable table = told(small[0] + ";" + one + ";" + small[1] + ";" + other + ";" + small[2]);
            due("join", k == 0 ? table.join(1, 3) : table.join(3, 1), 1);
            due("count(0)", table.count(0), 4);
            due("ahead", table.tet(0, 0), 1);
            due("between", table.tet(2, 0), 2);
            due("behind comes up", table.tet(3, 0), 3);
            cornersAre(table, 1, 4, 0, 0, -2, 0, 0, 0, 4, 0, 0, 0, 4);
            due("SIX", table.tet(1, 1), 96);
            due("SIX behind", table.tet(3, 1), 1);
            table = told(small[0] + ";" + other + ";" + small[1] + ";" + one);
            due("join", table.join(3, 1), 1);
            cornersAre(table, 1, -2, 0, 0, 4, 0, 0, 0, 4, 0, 0, 0, 4);
            due("the last is gone", tetThrows(table, 3, 0), true);
        }
    }

    private static void joinRefused() {
        says("JOINED are two TETS of one SOLID that have three CORNERS alike");
        says("JOINED: the number of what they are. -1, -3 (one and the same, of unlike SOLIDS, it is no TET).");
        String one = "t0:4,0,0/0,0,0/0,4,0/0,0,4";
        ScissorsTable table = told(one + ";t1:-2,0,0/0,0,0/0,4,0/0,0,4;" + one + ";t0:-2,0,0/0,0,0/0,4,0/0,0,3;t0:-2,0,0/0,0,0/0,4,0/0,0,4");
        due("one and the same", table.join(0, 0), -3);
        due("one and the same, the last", table.join(4, 4), -3);
        due("of unlike SOLIDS", table.join(0, 1), -3);
        due("all four CORNERS alike", table.join(0, 2), -3);
        due("two CORNERS alike", table.join(0, 3), -3);
        for (int bad : new int[] {-1, 5, 48, LEAST, GREATEST}) {
            due("join(" + bad + ", 0)", table.join(bad, 0), -1);
            due("join(4, " + bad + ")", table.join(4, bad), -1);
            due("join of both", table.join(bad, bad), -1);
        }
        due("nothing changed", table.count(0), 5);
        due("of one SOLID", table.join(4, 2), 2);
        due("given to one SOLID", table.give(1, 0), 1);
        due("then it can be", table.join(0, 1), 0);
        due("of none", new ScissorsTable().join(0, 0), -1);
    }

    private static void turnBounds() {
        says("TURNED: 0 .. 47 of a TET about the point 0, 0, 0");
        says("TURNED: how many of its CORNERS' numbers are other ones. -1, -2 (by), -3 (none would be).");
        for (int bad : new int[] {-1, 48, 49, LEAST, GREATEST}) {
            due("turn(0, " + bad + ")", told(OF_4).turn(0, bad), -2);
        }
        due("none would be", told(OF_4).turn(0, 0), -3);
        due("none would be", told("t0:5,5,5/-5,5,5/5,-5,5/5,5,-5").turn(0, 0), -3);
        for (int by = 1; by < 48; by++) {
            due("turn(0, " + by + ") changes some", told(OF_4).turn(0, by) > 0, true);
        }
        due("one number alone", told(OF_4).turn(0, 1), 1);
        due("one number alone", told(OF_4).turn(0, 4), 1);
        due("all twelve", told("t0:1,2,3/-1,2,3/1,-2,3/1,2,-3").turn(0, 7), 12);
        for (int bad : new int[] {-1, 1, 48, LEAST, GREATEST}) {
            due("no such TET " + bad, told(OF_4).turn(bad, 48), -1);
        }
        // A CORNER at the bounds stays within them.
        ScissorsTable table = told("t0:-9,9,0/9,9,9/-9,-9,-9/0,0,1");
        due("at the bounds", table.turn(0, 7), 9);
        cornersAre(table, 0, 9, -9, 0, -9, -9, -9, 9, 9, 9, 0, 0, -1);
    }

    private static void turnOrders() {
        says("by 8 the order of axes (XYZ, XZY, YXZ, YZX, ZXY, ZYX: what is X, Y, Z then), bits 0, 1, 2 of the rest: X, Y, Z then with the other sign");
        int[] corners = {1, 2, 3, 4, -5, 6, 7, 8, -9, 0, 3, -3};
        for (int by = 0; by < 48; by++) {
            ScissorsTable table = told(RIGHT + ";t2:1,2,3/4,-5,6/7,8,-9/0,3,-3;" + RIGHT);
            int[] want = new int[12];
            int others = 0;
            for (int c = 0; c < 4; c++) {
                int[] now = turned(new int[] {corners[c * 3], corners[c * 3 + 1], corners[c * 3 + 2]}, by);
                for (int axis = 0; axis < 3; axis++) {
                    want[c * 3 + axis] = now[axis];
                    others += now[axis] != corners[c * 3 + axis] ? 1 : 0;
                }
            }
            int six = table.tet(1, 1);
            due("turn(1, " + by + ")", table.turn(1, by), others == 0 ? -3 : others);
            cornersAre(table, 1, want);
            cornersAre(table, 0, 0, 0, 0, 1, 0, 0, 0, 1, 0, 0, 0, 1);
            due("SIX stays", table.tet(1, 1), six);
            due("SOLID stays", table.tet(1, 0), 2);
        }
    }

    private static void moveBounds() {
        says("MOVED: its SIX. -1, -2 (a CORNER would be beyond, a number not -18 .. 18), -3 (all are 0).");
        // From -2 to 3 by X, from 1 to 5 by Y, from -9 to -7 by Z.
        String text = RIGHT + ";t0:-2,1,-9/3,2,-8/0,5,-9/1,3,-7;" + EVEN_SIDED;
        int[] least = {-7, -10, 0};
        int[] greatest = {6, 4, 16};
        for (int axis = 0; axis < 3; axis++) {
            for (int by = -20; by <= 20; by++) {
                int[] m = {0, 0, 0};
                m[axis] = by;
                ScissorsTable table = told(text);
                int six = table.tet(1, 1);
                int old = table.corner(1, 2, axis);
                boolean fits = by >= least[axis] && by <= greatest[axis];
                due("move by " + by + " at axis " + axis, table.move(1, m[0], m[1], m[2]), !fits ? -2 : by == 0 ? -3 : six);
                due("corner", table.corner(1, 2, axis), fits ? old + by : old);
                cornersAre(table, 0, 0, 0, 0, 1, 0, 0, 0, 1, 0, 0, 0, 1);
                cornersAre(table, 2, 0, 0, 0, 1, 1, 0, 1, 0, 1, 0, 1, 1);
            }
        }
        for (int k = 0; k < 27; k++) {
            int x = k / 9 - 1;
            int y = k / 3 % 3 - 1;
            int z = k % 3 - 1;
            ScissorsTable table = told("t0:0,0,0/1,0,0/0,1,0/0,0,1");
            due("move by " + x + "," + y + "," + z, table.move(0, x, y, z), k == 13 ? -3 : 1);
            cornersAre(table, 0, x, y, z, x + 1, y, z, x, y + 1, z, x, y, z + 1);
        }
    }

    private static void moveNumbers() {
        says("a number not -18 .. 18");
        String low = "t0:-9,-9,-9/-8,-9,-9/-9,-8,-9/-9,-9,-8";
        String high = "t0:9,9,9/8,9,9/9,8,9/9,9,8";
        for (int axis = 0; axis < 3; axis++) {
            for (int by : new int[] {16, 17, 18, 19, 20, 1 << 16, GREATEST, GREATEST - 8, LEAST, LEAST + 9}) {
                int[] m = {0, 0, 0};
                m[axis] = by;
                boolean fits = by >= 0 && by <= 17;
                due("up by " + by, told(low).move(0, m[0], m[1], m[2]), fits ? 1 : -2);
                due("down by " + by, told(high).move(0, -m[0], -m[1], -m[2]), fits ? 1 : -2);
            }
        }
        due("all three", told(low).move(0, 17, 17, 17), 1);
        due("one too far", told(low).move(0, 17, 18, 17), -2);
        due("one too far", told(low).move(0, 17, 17, 19), -2);
        due("no such TET", told(low).move(1, 0, 0, 0), -1);
        due("no such TET", told(low).move(-1, 99, 0, 0), -1);
    }

    private static void giveBounds() {
        says("GIVEN: the SOLID it was of. -1 (no such TET, SOLID), -3 (it is).");
        for (int from = 0; from < 4; from++) {
            for (int to = -1; to <= 4; to++) {
                ScissorsTable table = told(RIGHT + ";t" + from + EVEN_SIDED.substring(2));
                int want = to < 0 || to > 3 ? -1 : to == from ? -3 : from;
                due("from " + from + " to " + to, table.give(1, to), want);
                due("its SOLID", table.tet(1, 0), want >= 0 ? to : from);
                due("its SUM", table.much(want >= 0 ? to : from, 2, 3), (want >= 0 ? to : from) == 0 ? -9 : -12);
                due("the SUM it was of", table.much(from, 2, 3), want >= 0 ? from == 0 ? 3 : 0 : from == 0 ? -9 : -12);
            }
        }
        for (int bad : new int[] {-1, 2, LEAST, GREATEST}) {
            due("no such TET", told(RIGHT + ";" + RIGHT).give(bad, 1), -1);
        }
        for (int bad : WRONG) {
            due("no such SOLID", told(RIGHT).give(0, bad), -1);
            due("neither", told(RIGHT).give(bad, bad), -1);
        }
    }

    private static void dropBounds() {
        says("DROPPED: how many TETS are left. -1.");
        String text = RIGHT + ";" + EVEN_SIDED + ";t2:0,0,0/2,0,0/0,3,0/0,0,5";
        for (int bad : new int[] {-1, 3, 48, LEAST, GREATEST}) {
            due("drop(" + bad + ")", told(text).drop(bad), -1);
        }
        for (int tet = 0; tet < 3; tet++) {
            ScissorsTable table = told(text);
            due("drop(" + tet + ")", table.drop(tet), 2);
            due("count(0)", table.count(0), 2);
            due("the first then", table.tet(0, 0), tet == 0 ? 1 : 0);
            due("the second then", table.tet(1, 0), tet == 2 ? 1 : 2);
            due("SIX of the second", table.tet(1, 1), tet == 2 ? 2 : 30);
            due("no SUM of it", table.solid(tet, 3), 0);
            due("one less", table.drop(1), 1);
            due("no such one any more", table.drop(1), -1);
            due("none left", table.drop(0), 0);
            due("no such one any more", table.drop(0), -1);
            due("no SUMS", table.most(5), 15);
        }
        ScissorsTable full = told(tets(48));
        due("of 48", full.drop(48), -1);
        due("the last of 48", full.drop(47), 47);
        due("the first", full.drop(0), 46);
    }

    private static ScissorsTable busy() {
        ScissorsTable table = told(OF_4 + ";" + EVEN_SIDED + ";t0:4,0,0/0,0,0/0,4,0/0,0,5");
        table.pick(0, 3);
        table.pick(1, 0);
        table.plan(2, 2, 2, 1, 4, 2);
        write(table, "t0");
        return table;
    }

    private static void nothingChanges() {
        says("Refused (nothing changes): -1 no such one; -2 a number out of bounds, a CORNER would be beyond -9 .. 9; -3 it can't be so");
        refused(busy(), "cut(3, 1, 1, 1)", t -> t.cut(3, 1, 1, 1), -1);
        refused(busy(), "cut(0, 10, 0, 0)", t -> t.cut(0, 10, 0, 0), -2);
        refused(busy(), "cut(0, 3, 3, 3)", t -> t.cut(0, 3, 3, 3), -3);
        refused(busy(), "cut(0, 4, 0, 0)", t -> t.cut(0, 4, 0, 0), -3);
        refused(busy(), "join(0, 3)", t -> t.join(0, 3), -1);
        refused(busy(), "join(0, 0)", t -> t.join(0, 0), -3);
        refused(busy(), "join(0, 1)", t -> t.join(0, 1), -3);
        refused(busy(), "join(0, 2)", t -> t.join(0, 2), -3);
        refused(busy(), "turn(3, 1)", t -> t.turn(3, 1), -1);
        refused(busy(), "turn(0, 48)", t -> t.turn(0, 48), -2);
        refused(busy(), "turn(0, 0)", t -> t.turn(0, 0), -3);
        refused(busy(), "move(3, 1, 1, 1)", t -> t.move(3, 1, 1, 1), -1);
        refused(busy(), "move(0, 6, 0, 0)", t -> t.move(0, 6, 0, 0), -2);
        refused(busy(), "move(0, 1, 1, -10)", t -> t.move(0, 1, 1, -10), -2);
        refused(busy(), "move(0, 0, 0, 0)", t -> t.move(0, 0, 0, 0), -3);
        refused(busy(), "give(3, 1)", t -> t.give(3, 1), -1);
        refused(busy(), "give(0, 4)", t -> t.give(0, 4), -1);
        refused(busy(), "give(0, 0)", t -> t.give(0, 0), -3);
        refused(busy(), "drop(3)", t -> t.drop(3), -1);
        refused(busy(), "pick(3, 0)", t -> t.pick(3, 0), -1);
        refused(busy(), "pick(0, 6)", t -> t.pick(0, 6), -1);
        refused(busy(), "plan(0, 1, 1, 1, 1, 1)", t -> t.plan(0, 1, 1, 1, 1, 1), -2);
        refused(busy(), "plan(1, 1, 2, 1, 1, 3)", t -> t.plan(1, 1, 2, 1, 1, 3), -3);
        refused(busy(), "plan(1, 1, 7, 7, 1, 1)", t -> t.plan(1, 1, 7, 7, 1, 1), NONE);
        refused(busy(), "end(3)", t -> t.end(3) ? 1 : 0, 0);
        refused(busy(), "text()", t -> t.text(), NONE);
        says("(Nothing is changed; how many TETS there are is not asked.)");
        refused(busy(), "cutsTo(0, 3)", t -> t.cutsTo(0, 3), cutOneByOne(OF_4, 3));
        refused(busy(), "fairest(0, 3)", t -> t.fairest(0, 3), 16);
        refused(busy(), "points(0)", t -> t.points(0), 35);
        refused(busy(), "where(0, 1, 1, 1)", t -> t.where(0, 1, 1, 1), 4);
        refused(busy(), "most(4)", t -> t.most(4), 2);
        ScissorsTable full = told(tets(48));
        due("of 48", full.cutsTo(0, 16), 1);
        due("of 48", full.count(0), 48);
    }

    private static void refusedFirst() {
        says("-1 no such one; -2 a number out of bounds");
        ScissorsTable table = told(tets(48));
        due("cut: -1 ahead of -2", table.cut(48, 99, 0, 0), -1);
        due("cut: -2 ahead of -3", table.cut(0, 99, 0, 0), -2);
        due("cut: -3 ahead of -4", table.cut(0, 9, 9, 9), -3);
        due("turn: -1 ahead of -2", table.turn(48, 99), -1);
        due("turn: -1 ahead of -3", table.turn(48, 0), -1);
        due("move: -1 ahead of -2", table.move(48, 99, 0, 0), -1);
        due("move: -1 ahead of -3", table.move(48, 0, 0, 0), -1);
        due("join: -1 ahead of -3", table.join(48, 48), -1);
        due("give: -1 ahead of -3", table.give(48, 0), -1);
        for (int k = 0; k < 6; k++) {
            table.pick(0, 0);
        }
        due("pick: -1 ahead of -3", table.pick(48, 0), -1);
        due("pick: -1 ahead of -3", table.pick(0, 6), -1);
        due("pick: -3", table.pick(0, 0), -3);
    }

    private static void pointsBounds() {
        says("POINTS of a TET: whole ones in it (CORNERS, edges, faces, too).");
        String[] texts = {RIGHT, EVEN_SIDED, "t0:0,0,0/1,0,0/0,1,0/1,1,9", "t0:0,0,0/2,0,0/0,1,0/0,0,1", "t0:0,0,0/2,0,0/0,2,0/0,0,1",
            "t0:0,0,0/3,0,0/0,3,0/0,0,1", "t0:0,0,0/3,0,0/0,3,0/0,0,3", OF_4, "t0:-9,-9,-9/9,-9,-9/-9,9,-9/-9,-9,9", "t0:9,9,9/-9,9,9/9,-9,9/9,9,-9",
            "t0:1,0,0/0,1,0/0,0,1/-1,-1,-1", "t0:0,0,0/9,8,0/8,7,0/0,0,1"};
        // By turns: CORNERS alone; a middle of an EDGE; three of these; all of a face; 1 + 3 + 6 + 10; .. + 15; all 18 layers; one within.
        int[] want = {4, 4, 4, 5, 7, 11, 20, 35, 1330, 1330, 5, 4};
        for (int k = 0; k < texts.length; k++) {
            ScissorsTable table = told(EVEN_SIDED + ";" + texts[k]);
            due("points of " + texts[k], table.points(1), want[k]);
        }
        for (int by = 0; by < 48; by++) {
            pointsByWhere(by);
        }
        says("POINTS of a TET. NONE: no such one.");
        for (int bad : new int[] {-1, 1, LEAST, GREATEST}) {
            due("points(" + bad + ")", told(OF_4).points(bad), NONE);
        }
        due("of none", new ScissorsTable().points(0), NONE);
    }

    /** From -9 to -4, from -2 to 3, from 3 to 9, turned: as many as there are places at which where() says so. */
    private static void pointsByWhere(int by) {
        ScissorsTable table = told("t0:-9,3,3/-4,2,4/-8,-2,5/-9,3,9");
        table.turn(0, by);
        int found = 0;
        for (int k = 0; k < 6 * 6 * 7; k++) {
            int[] p = turned(new int[] {-9 + k / 42, -2 + k / 7 % 6, 3 + k % 7}, by);
            found += table.where(0, p[0], p[1], p[2]) > 0 ? 1 : 0;
        }
        due("points of turn " + by, table.points(0), found);
        due("more than CORNERS", found > 5, true);
        due("the FAIREST is one of them", table.where(0, table.fairest(0, 0), table.fairest(0, 1), table.fairest(0, 2)) > 1, true);
    }

    private static void lastOf48() {
        says("48 at most in all");
        ScissorsTable table = told(tets(47) + ";t3:-1,2,-3/3,2,-3/-1,6,-3/-1,2,1");
        due("SOLID of the last", table.tet(47, 0), 3);
        due("SIX of the last", table.tet(47, 1), 64);
        due("points of the last", table.points(47), 35);
        due("within the last", table.where(47, 0, 3, -2), 4);
        fairestIs(table, 47, 0, 3, -2, 16);
        due("cutsTo of the last", table.cutsTo(47, 16), 1);
        edgeIs(table, 47, 5, 4, 2, 1, 1, NONE, 1);
        due("SUM of the last", table.much(3, 2, 3), 12);
        due("not EVEN", table.solid(3, 2), 3);
        due("EVEN of all", table.most(2), 6 * 48 - 3 - 3 - 3 * 4);
        due("turn of the last", table.turn(47, 7), 12);
        due("move of the last", table.move(47, 1, 0, 0), 64);
        due("give of the last", table.give(47, 2), 3);
        due("pick of the last", table.pick(47, 5), 1);
        due("with POINTS", table.most(4), 2);
        due("drop of the last", table.drop(47), 47);
        due("what was there is not counted", table.most(2), 6 * 47 - 3 - 3 * 4);
        due("nor in its SOLID", table.solid(2, 2), 0);
        due("with POINTS", table.most(4), 1);
        due("none behind", table.where(47, 0, 0, 0), NONE);
        due("none behind", table.points(47), NONE);
    }

    private static void fairestBounds() {
        says("FAIREST: X, Y, Z (0 .. 2), the greatest SIX (3). HIDDEN: no such TET, it has no POINTS but CORNERS, no such what.");
        ScissorsTable table = told(RIGHT + ";t0:0,0,0/2,0,0/0,1,0/0,0,1;t0:0,0,0/1,0,0/0,1,0/1,1,9;t0:1,0,0/0,1,0/0,0,1/-1,-1,-1");
        fairestIs(table, 0, HIDDEN, HIDDEN, HIDDEN, HIDDEN);
        fairestIs(table, 1, 1, 0, 0, 1);
        fairestIs(table, 2, HIDDEN, HIDDEN, HIDDEN, HIDDEN);
        fairestIs(table, 3, 0, 0, 0, 1);
        fairestIs(table, 4, HIDDEN, HIDDEN, HIDDEN, HIDDEN);
        fairestIs(table, -1, HIDDEN, HIDDEN, HIDDEN, HIDDEN);
        for (int bad : new int[] {-1, 4, LEAST, GREATEST}) {
            due("fairest(1, " + bad + ")", table.fairest(1, bad), HIDDEN);
        }
        for (int bad : WRONG) {
            due("fairest(" + bad + ", 0)", table.fairest(bad, 0), HIDDEN);
        }
        says("of its POINTS but CORNERS that at which, were it CUT, the greatest SIX is least");
        // 5 long: 1 and 4, 2 and 3, 3 and 2, 4 and 1.
        fairestIs(told("t0:0,0,0/0,0,5/1,0,0/0,1,0"), 0, 0, 0, 2, 3);
        fairestIs(told(OF_4), 0, 1, 1, 1, 16);
    }

    private static void fairestTies() {
        says("(of several the lowest by X, then Y, then Z)");
        // Two as fair at thirds of one EDGE: the lower one by that axis, both ways.
        fairestIs(told("t0:0,0,0/3,0,0/0,1,0/0,0,1"), 0, 1, 0, 0, 2);
        fairestIs(told("t0:3,0,0/0,0,0/0,1,0/0,0,1"), 0, 1, 0, 0, 2);
        fairestIs(told("t0:0,0,0/-3,0,0/0,1,0/0,0,1"), 0, -2, 0, 0, 2);
        fairestIs(told("t0:0,0,0/0,3,0/1,0,0/0,0,1"), 0, 0, 1, 0, 2);
        fairestIs(told("t0:0,0,0/0,-3,0/1,0,0/0,0,1"), 0, 0, -2, 0, 2);
        fairestIs(told("t0:0,0,0/0,0,3/1,0,0/0,1,0"), 0, 0, 0, 1, 2);
        fairestIs(told("t0:0,0,0/0,0,-3/1,0,0/0,1,0"), 0, 0, 0, -2, 2);
        // X ahead of Y, though the other is lower by Y; X ahead of Z; Y ahead of Z.
        fairestIs(told("t0:0,0,0/2,0,0/0,2,0/0,0,1"), 0, 0, 1, 0, 2);
        fairestIs(told("t0:0,0,0/2,0,0/0,1,0/0,0,2"), 0, 0, 0, 1, 2);
        fairestIs(told("t0:0,0,0/1,0,0/0,2,0/0,0,2"), 0, 0, 0, 1, 2);
        // Below 0 is lower.
        fairestIs(told("t0:0,0,0/-2,0,0/0,-2,0/0,0,-1"), 0, -1, -1, 0, 2);
        fairestIs(told("t0:0,0,0/-1,0,0/0,-2,0/0,0,-2"), 0, 0, -1, -1, 2);
        fairestIs(told("t0:0,0,0/-2,0,0/0,1,0/0,0,-2"), 0, -1, 0, -1, 2);
    }

    private static void cutsToBounds() {
        says("The fewest CUTS at POINTS by which no piece of a TET has a greater SIX than so much, each piece that has CUT at its FAIREST");
        ScissorsTable table = told(RIGHT + ";t0:0,0,0/2,0,0/0,2,0/0,0,2;t0:0,0,0/0,0,9/1,0,0/0,1,0;" + OF_4 + ";t0:0,0,0/1,0,0/0,1,0/1,1,9");
        due("no greater than 8", table.cutsTo(1, 8), 0);
        due("no greater than 7", table.cutsTo(1, 7), 1);
        due("halves of 4", table.cutsTo(1, 4), 1);
        due("both halves too", table.cutsTo(1, 3), 3);
        due("quarters of 2", table.cutsTo(1, 2), 3);
        due("quarters of 2 to 1", table.cutsTo(1, 1), cutOneByOne("t0:0,0,0/2,0,0/0,2,0/0,0,2", 1));
        due("9 long to 9", table.cutsTo(2, 9), 0);
        due("9 long to 8", table.cutsTo(2, 8), 1);
        due("9 long to 5", table.cutsTo(2, 5), 1);
        due("9 long to 4: 4 and 5", table.cutsTo(2, 4), 2);
        due("9 long to 3: 2 2, 2 3", table.cutsTo(2, 3), 3);
        due("9 long to 2", table.cutsTo(2, 2), 4);
        due("9 long to 1", table.cutsTo(2, 1), 8);
        due("64 to 64", table.cutsTo(3, 64), 0);
        due("64 to 63", table.cutsTo(3, 63), 1);
        due("64 to 16", table.cutsTo(3, 16), 1);
        due("64 to 15: all four", table.cutsTo(3, 15), 5);
        due("as much as ints have", table.cutsTo(3, GREATEST), 0);
        says("NONE: one can't be CUT, they are more than 40, no such TET, below 1.");
        due("can't be CUT", table.cutsTo(4, 8), NONE);
        due("need not be CUT", table.cutsTo(4, 9), 0);
        due("need not be CUT", table.cutsTo(0, 1), 0);
        due("below 1", table.cutsTo(0, 0), NONE);
        due("below 1", table.cutsTo(0, -1), NONE);
        due("below 1", table.cutsTo(3, LEAST), NONE);
        for (int bad : new int[] {-1, 5, LEAST, GREATEST}) {
            due("no such TET", table.cutsTo(bad, 100), NONE);
        }
    }

    private static void cutsToForty() {
        says("they are more than 40");
        String[] texts = {"t0:0,9,1/-5,3,8/-1,-5,3/3,5,5", "t0:6,-6,8/-8,-5,4/-2,-6,8/5,-6,-9", "t0:6,3,-9/2,-7,-4/-5,-8,-9/0,4,-1", "t0:-3,-4,8/9,-1,-4/4,-7,-6/-4,8,0",
            "t0:3,0,-9/3,-9,0/3,9,9/6,0,9"};
        // The last one by 1, 3, 9 and 27 CUTS in three: 81 pieces of 9.
        int[] to = {11, 3, 19, 29, 9};
        int[] cuts = {40, 40, 41, 42, 40};
        for (int k = 0; k < texts.length; k++) {
            due("cutsTo of " + texts[k], told(texts[k]).cutsTo(0, to[k]), cuts[k] > 40 ? NONE : cuts[k]);
            due("CUT one by one", cutOneByOne(texts[k], to[k]), cuts[k]);
        }
        due("pieces of 9 can't be CUT on", told(texts[4]).cutsTo(0, 8), NONE);
        due("far more", told("t0:-9,-9,-9/9,-9,-9/-9,9,-9/-9,-9,9").cutsTo(0, 1), NONE);
        due("far more", told("t0:-9,-9,-9/9,9,-9/9,-9,9/-9,9,9").cutsTo(0, 90), NONE);
    }

    /** CUTS by the face's own calls, each piece on a table of its own, as one can hold but 48. */
    private static int cutOneByOne(String text, int six) {
        List<String> waiting = new ArrayList<>();
        waiting.add(text);
        int cuts = 0;
        while (!waiting.isEmpty() && cuts < 100) {
            ScissorsTable table = told(waiting.remove(waiting.size() - 1));
            if (table.tet(0, 1) > six && table.fairest(0, 3) == HIDDEN) {
                return NONE;
            }
            if (table.tet(0, 1) > six) {
                table.cut(0, table.fairest(0, 0), table.fairest(0, 1), table.fairest(0, 2));
                cuts++;
                for (int tet = 0; tet < table.count(0); tet++) {
                    int[][] corners = new int[4][3];
                    for (int k = 0; k < 12; k++) {
                        corners[k / 3][k % 3] = table.corner(tet, k / 3, k % 3);
                    }
                    waiting.add(tet(corners));
                }
            }
        }
        return cuts;
    }
}
