/** The sentences about EDGES, ANGLES, SUMS and what hangs together that name a boundary, each on both sides of it. */
public final class AngleBoundsTest extends Checks {
    private static final int[] WRONG = {-1, LEAST, GREATEST};
    /** Nothing but EVEN angles, SIX 6. */
    private static final String CUBE = "b2:0,0,0/1,1,1";

    public static void main(String[] args) {
        edgeNumbers();
        lengths();
        angleParts();
        evenAngles();
        notEven();
        primesOfM();
        powers();
        signs();
        edgeBounds();
        primeBounds();
        noughtTerms();
        termOrder();
        solidBounds();
        muchBounds();
        alikeBounds();
        unlikeBounds();
        lacksBounds();
        pickBounds();
        unpickBounds();
        ranks();
        relations();
        sixPicked();
        relationBounds();
        rankOfBounds();
        relationOfBounds();
        farRelation();
        multiplesBounds();
        multiplesNone();
        mostOfNone();
        mostBounds();
        mostCouples();
        close("AngleBoundsTest");
    }

    /** An EDGE along X, M 1, with the angle between a + b i and c + d i. */
    private static String square(int a, int b, int c, int d) {
        return "t0:0,0,0/1,0,0/0," + a + "," + b + "/0," + c + "," + d;
    }

    private static void edgeNumbers() {
        says("EDGES of a TET: 0 to 5: between its CORNERS 0 1, 0 2, 0 3, 1 2, 1 3, 2 3.");
        ScissorsTable table = told(RIGHT + ";t0:0,0,0/1,0,0/0,2,0/0,0,3");
        edgeIs(table, 1, 0, 1, 1, 0, 1, 6, 0);
        edgeIs(table, 1, 1, 2, 1, 0, 1, 6, 0);
        edgeIs(table, 1, 2, 3, 1, 0, 1, 6, 0);
        edgeIs(table, 1, 3, 1, 5, 2, 3, NONE, 1);
        edgeIs(table, 1, 4, 1, 10, 3, 2, NONE, 1);
        edgeIs(table, 1, 5, 1, 13, 6, 1, NONE, 1);
    }

    private static void lengths() {
        says("LENGTH: Q times the root of M, M without a square above 1.");
        // 4, 8, 9, 12, 18, 45, 50, 72, 324, 729, 972, 937: the last three as long as can be, or without a square.
        int[][] ends = {{2, 0, 0, 2, 1}, {2, 2, 0, 2, 2}, {2, 2, 1, 3, 1}, {2, 2, 2, 2, 3}, {4, 1, 1, 3, 2}, {5, 4, 2, 3, 5}, {5, 4, 3, 5, 2},
            {6, 6, 0, 6, 2}, {18, 0, 0, 18, 1}, {18, 18, 9, 27, 1}, {18, 18, 18, 18, 3}, {18, 18, 17, 1, 937}, {1, 0, 0, 1, 1}, {1, 1, 0, 1, 2}, {16, 15, 12, 25, 1}};
        for (int[] end : ends) {
            ScissorsTable table = told("t0:-9,-9,-9/" + (end[0] - 9) + "," + (end[1] - 9) + "," + (end[2] - 9) + "/-9,-8,-9/-8,-7,-3");
            due("Q of " + end[0] + "," + end[1] + "," + end[2], table.edge(0, 0, 0), end[3]);
            due("M of " + end[0] + "," + end[1] + "," + end[2], table.edge(0, 0, 1), end[4]);
        }
    }

    private static void angleParts() {
        says("B above 0, A and B without a common part");
        ScissorsTable table = told(square(3, 3, 6, 0) + ";" + square(-3, 3, 6, 0) + ";" + square(0, 9, 6, 0) + ";" + square(0, -9, 6, 0)
                + ";" + square(6, 3, 9, 0) + ";" + square(-6, 3, 9, 0) + ";" + square(6, -3, 9, 0) + ";" + square(4, 2, -6, 3));
        int[][] want = {{1, 1}, {-1, 1}, {0, 1}, {0, 1}, {2, 1}, {-2, 1}, {2, 1}, {-3, 4}};
        for (int tet = 0; tet < want.length; tet++) {
            due("A of TET " + tet, table.edge(tet, 0, 2), want[tet][0]);
            due("B of TET " + tet, table.edge(tet, 0, 3), want[tet][1]);
        }
    }

    private static void evenAngles() {
        says("It is EVEN, if it is twelfths of a half turn: then no prime is in it.");
        ScissorsTable table = told("t0:0,0,0/2,2,2/-1,0,0/-1,0,1;t0:0,0,0/1,0,0/1,1,0/1,1,1;t0:0,0,0/1,1,1/1,0,0/1,1,0;" + RIGHT
                + ";t0:0,0,0/1,1,1/1,0,0/0,1,0;t0:0,0,0/0,0,1/1,0,0/-1,1,0;t0:0,0,0/1,1,1/1,0,0/-1,1,0");
        edgeIs(table, 0, 0, 2, 3, 3, 1, 2, 0);
        edgeIs(table, 1, 0, 1, 1, 1, 1, 3, 0);
        edgeIs(table, 2, 0, 1, 3, 1, 1, 4, 0);
        edgeIs(table, 3, 0, 1, 1, 0, 1, 6, 0);
        edgeIs(table, 4, 0, 1, 3, -1, 1, 8, 0);
        edgeIs(table, 5, 0, 1, 1, -1, 1, 9, 0);
        edgeIs(table, 6, 0, 1, 3, -3, 1, 10, 0);
        // A right angle with an M above 1, too.
        edgeIs(told("t0:0,0,0/1,1,0/-1,0,0/0,0,-1"), 0, 0, 1, 2, 0, 1, 6, 0);
        edgeIs(told("t0:0,0,0/1,1,1/-1,0,0/0,-1,1"), 0, 0, 1, 3, 0, 1, 6, 0);
    }

    /** What is next to an EVEN angle: the same A and B with another M, another A or B with the same M. */
    private static void notEven() {
        says("4 twelfths of a half turn (NONE: it is not EVEN), 5 how many primes");
        edgeIs(told("t0:0,0,0/1,1,0/-1,0,-1/-1,0,0"), 0, 0, 1, 2, 1, 1, NONE, 1);
        edgeIs(told("t0:0,0,0/2,1,0/-1,0,-1/-1,0,0"), 0, 0, 1, 5, 1, 1, NONE, 1);
        edgeIs(told("t0:0,0,0/3,1,1/-1,-1,0/1,0,0"), 0, 0, 1, 11, 1, 1, NONE, 1);
        edgeIs(told("t0:0,0,0/2,1,0/-1,0,0/-1,1,-1"), 0, 0, 1, 5, 3, 1, NONE, 1);
        edgeIs(told("t0:0,0,0/1,1,1/-2,0,1/-1,1,0"), 0, 0, 1, 3, 3, 2, NONE, 1);
        edgeIs(told("t0:0,0,0/1,1,1/-2,0,1/0,0,1"), 0, 0, 1, 3, 2, 1, NONE, 1);
        edgeIs(told("t0:0,0,0/1,1,1/-2,0,1/-1,0,0"), 0, 0, 1, 3, 5, 1, NONE, 1);
        edgeIs(told("t0:0,0,0/1,1,1/-2,-1,2/0,-1,0"), 0, 0, 1, 3, 1, 2, NONE, 1);
        edgeIs(told(square(1, 0, 1, 2)), 0, 0, 1, 1, 1, 2, NONE, 1);
        edgeIs(told(square(1, 0, 2, 1)), 0, 0, 1, 1, 2, 1, NONE, 1);
        edgeIs(told(square(1, 0, 3, 1)), 0, 0, 1, 1, 3, 1, NONE, 1);
        edgeIs(told(square(1, 0, -9, 8)), 0, 0, 1, 1, -9, 8, NONE, 2);
        edgeIs(told(square(9, 8, 8, 7)), 0, 0, 1, 1, 128, 1, NONE, 3);
    }

    private static void primesOfM() {
        says("with P not in M and (P is 2) M by 8 leaving 7");
        // 21 is 3 by 7, 45 is 3 by 3 by 5, 15 is 3 by 5, 6 is 2 by 3: what is in M is left out.
        primesAre(told("t0:0,0,0/1,1,1/-2,0,1/-1,1,0"), 0, 0, 7, -1);
        primesAre(told("t0:0,0,0/2,1,0/0,-1,-1/0,0,-1"), 0, 0, 3, 2);
        primesAre(told("t0:0,0,0/2,1,1/-1,-1,0/0,-1,0"), 0, 0, 5, -1);
        primesAre(told("t0:0,0,0/1,1,0/-1,0,-1/0,0,-1"), 0, 0, 3, -1);
        // The same primes with another M are counted: 21 of M 5.
        primesAre(told("t0:0,0,0/1,1,1/-2,0,1/-1,1,0"), 0, 1, 3, -1, 7, -1);
        // 12 of M 11, 28 of M 3, 6 of M 5, 10 of M 1: no 2, as M leaves 3, 3, 5, 1.
        primesAre(told("t0:0,0,0/3,1,1/-1,-1,0/1,0,0"), 0, 0, 3, 1);
        primesAre(told("t0:0,0,0/1,1,1/-2,0,1/-1,0,0"), 0, 0, 7, -1);
        primesAre(told("t0:0,0,0/2,1,0/-1,0,-1/-1,0,0"), 0, 0, 3, 1);
        primesAre(told(square(1, 0, 3, 1)), 0, 0, 5, -1);
        // No EDGE has an M that leaves 7: no three squares add up to such a number.
        for (int k = 0; k < 19 * 19 * 19; k++) {
            int square = k / 361 * (k / 361) + k / 19 % 19 * (k / 19 % 19) + k % 19 * (k % 19);
            due("a square that leaves 7", square % 8 == 7, false);
        }
    }

    private static void powers() {
        says("of each prime P that A A and M B B, added, has E times");
        primesAre(told(square(1, 0, 2, 1)), 0, 0, 5, 1);
        primesAre(told(square(2, 1, 2, -1)), 0, 0, 5, 2);
        primesAre(told(square(3, 4, 3, -4)), 0, 0, 5, 4);
        primesAre(told("t0:0,0,0/2,1,0/0,-1,-1/0,-1,1"), 0, 0, 3, -4);
        primesAre(told("t0:-7,1,-8/6,4,0/2,-6,6/6,-2,6"), 0, 2, 3, 7);
        primesAre(told("t0:-1,3,-7/6,-3,-5/2,2,6/2,-7,4"), 0, 0, 3, -9, 19, 1, 173, -1);
        primesAre(told("t0:-1,3,-7/6,-3,-5/2,2,6/2,-7,4"), 0, 1, 3, 8, 17, -1, 439, -1);
        // Seven primes, the greatest of all these, and a prime in both faces of an EDGE.
        primesAre(told("t0:-1,-7,1/5,8,9/1,3,-9/-4,-3,-7"), 0, 4, 3, 1, 7, -1, 11, -1, 17, -1, 23, 1, 31, -1, 239, -1);
        primesAre(told("t0:-9,-9,-9/9,-9,9/9,8,7/-8,9,9"), 0, 1, 3, -1, 97, 1, 189437, -1);
        primesAre(told("t0:-9,-9,-9/9,-9,9/9,8,7/-8,9,9"), 0, 5, 149, -1, 577, -1, 189437, 1);
        primesAre(told("t0:0,0,0/1,0,0/0,2,0/0,0,3"), 0, 5, 7, -2);
    }

    private static void signs() {
        says("P above 2: above nought if A by B, in rests by P, is no more than half of P");
        // 2 by 1 and 3 by 1 in rests by 5: just below and just above a half.
        primesAre(told(square(1, 0, 2, 1)), 0, 0, 5, 1);
        primesAre(told(square(1, 0, 3, 1)), 0, 0, 5, -1);
        primesAre(told(square(1, 0, -2, 1)), 0, 0, 5, -1);
        primesAre(told(square(1, 0, -3, 1)), 0, 0, 5, 1);
        // 1 by 2 is 3, -1 by 2 is 2.
        primesAre(told(square(1, 0, 1, 2)), 0, 0, 5, -1);
        primesAre(told(square(1, 0, -1, 2)), 0, 0, 5, 1);
        // 1 and 2 in rests by 3, of M 2.
        primesAre(told("t0:0,0,0/1,1,0/-1,0,-1/-1,0,0"), 0, 0, 3, 1);
        primesAre(told("t0:0,0,0/1,1,0/-1,0,-1/0,-1,0"), 0, 0, 3, -1);
        // 3 and 4 in rests by 7, of M 5.
        primesAre(told("t0:0,0,0/2,1,0/-1,0,0/-1,1,-1"), 0, 0, 7, 1);
        primesAre(told("t0:0,0,0/2,1,0/-1,0,0/1,-1,-1"), 0, 0, 7, -1);
    }

    private static void edgeBounds() {
        says("Of an EDGE: 0 Q, 1 M, 2 A, 3 B, 4 twelfths of a half turn (NONE: it is not EVEN), 5 how many primes. HIDDEN: no such ones.");
        ScissorsTable table = told(EVEN_SIDED + ";" + RIGHT);
        for (int tet = -1; tet <= 2; tet++) {
            for (int edge = -1; edge <= 6; edge++) {
                for (int what = -1; what <= 6; what++) {
                    boolean is = tet >= 0 && tet < 2 && edge >= 0 && edge < 6 && what >= 0 && what < 6;
                    due("edge(" + tet + ", " + edge + ", " + what + ") told", table.edge(tet, edge, what) != HIDDEN, is);
                }
            }
        }
        for (int bad : WRONG) {
            due("no such TET", table.edge(bad, 0, 0), HIDDEN);
            due("no such EDGE", table.edge(0, bad, 0), HIDDEN);
            due("no such what", table.edge(0, 0, bad), HIDDEN);
        }
        due("of none", new ScissorsTable().edge(0, 0, 0), HIDDEN);
    }

    private static void primeBounds() {
        says("Of an EDGE the i-th prime, rising: P (0), E with its sign (1). HIDDEN: no such ones.");
        ScissorsTable table = told(RIGHT + ";" + square(1, 0, -9, 8));
        // 145 is 5 by 29; -9 by 8 is 1 by 3, 2, in rests by 5; 20 by 8, 17, in rests by 29.
        int[] want = {5, 1, 29, -1};
        for (int i = -1; i <= 2; i++) {
            for (int what = -1; what <= 2; what++) {
                boolean is = i >= 0 && i < 2 && what >= 0 && what < 2;
                due("prime(1, 0, " + i + ", " + what + ")", table.prime(1, 0, i, what), is ? want[i * 2 + what] : HIDDEN);
            }
        }
        due("an EVEN one has none", table.prime(0, 0, 0, 0), HIDDEN);
        due("one has one", table.prime(0, 3, 0, 0), 3);
        due("no EDGE 6", table.prime(0, 6, 0, 0), HIDDEN);
        due("EDGE 5", table.prime(0, 5, 0, 0), 3);
        due("no TET 2", table.prime(2, 0, 0, 0), HIDDEN);
        for (int bad : WRONG) {
            due("no such TET", table.prime(bad, 0, 0, 0), HIDDEN);
            due("no such EDGE", table.prime(1, bad, 0, 0), HIDDEN);
            due("no such i", table.prime(1, 0, bad, 0), HIDDEN);
            due("no such what", table.prime(1, 0, 0, bad), HIDDEN);
        }
    }

    /** A cube is one TET of even sides and four of three right angles: -12 and four times 3. */
    private static void noughtTerms() {
        says("Q times E with its sign, added up; those that are 0 are none");
        ScissorsTable table = told(EVEN_SIDED);
        for (int count = 1; count <= 5; count++) {
            write(table, EVEN_SIDED + (";t1" + RIGHT.substring(2)).repeat(count));
            table.text();
            int much = 3 * count - 12;
            due("much", table.much(1, 2, 3), much);
            due("terms", table.solid(1, 3), much == 0 ? 0 : 1);
            due("the first term", table.term(1, 0, 2), much == 0 ? HIDDEN : much);
            due("bits without a SUM", table.most(5), much == 0 ? 15 : 13);
            due("greatest M", table.most(0), much == 0 ? 0 : 2);
            due("RANK", table.rankOf(2), much == 0 ? 0 : 1);
        }
        says("EVEN angles count nothing, and so it does not matter how a solid is cut");
        ScissorsTable cube = told(EVEN_SIDED + (";t1" + RIGHT.substring(2)).repeat(4) + ";" + CUBE);
        due("the cube of five and that of six", cube.alike(1, 2), 0);
    }

    private static void termOrder() {
        says("Where (M, P) of SUMS are told in a row: by M rising, then P.");
        ScissorsTable table = told(BY_19 + ";" + RIGHT + ";" + square(4, 7, 1, 0) + ";" + square(9, 4, 1, 0));
        int terms = table.solid(0, 3);
        due("terms", terms > 6, true);
        for (int i = 0; i + 1 < terms; i++) {
            long here = table.term(0, i, 0) * 10000000L + table.term(0, i, 1);
            long next = table.term(0, i + 1, 0) * 10000000L + table.term(0, i + 1, 1);
            due("rising behind " + i, next > here, true);
            due("much of it", table.much(0, table.term(0, i, 0), table.term(0, i, 1)), table.term(0, i, 2));
            due("no term is 0", table.term(0, i, 2) != 0, true);
        }
        // 4 + 7i is of 5 and 13, 9 + 4i of 97: M 1 has three in a row.
        termIs(table, 0, 0, 1, 5, 1);
        termIs(table, 0, 1, 1, 13, -1);
        due("then 97", table.term(0, 2, 1), 97);
        says("The i-th term of a SOLID's SUM: M (0), P (1), how much (2). HIDDEN: no such ones.");
        for (int what = -1; what <= 3; what++) {
            boolean is = what >= 0 && what < 3;
            due("the first", table.term(0, 0, what) != HIDDEN, is);
            due("the last", table.term(0, terms - 1, what) != HIDDEN, is);
            due("behind the last", table.term(0, terms, what), HIDDEN);
            due("ahead of the first", table.term(0, -1, what), HIDDEN);
            due("an empty SUM", table.term(1, 0, what), HIDDEN);
            due("no such SOLID", table.term(4, 0, what), HIDDEN);
            due("no such SOLID", table.term(-1, 0, what), HIDDEN);
        }
        for (int bad : WRONG) {
            due("no such SOLID", table.term(bad, 0, 0), HIDDEN);
            due("no such i", table.term(0, bad, 0), HIDDEN);
            due("no such what", table.term(0, 0, bad), HIDDEN);
        }
    }

    private static void solidBounds() {
        says("Of a SOLID all SIX added up (0), TETS (1), EDGES that are not EVEN (2), terms of its SUM (3). NONE: no such ones.");
        ScissorsTable table = told(BY_19 + ";" + EVEN_SIDED + ";" + CUBE);
        int[][] want = {{30, 1, 3, 3}, {2, 1, 6, 1}, {6, 6, 0, 0}, {0, 0, 0, 0}};
        for (int solid = -1; solid <= 4; solid++) {
            for (int what = -1; what <= 4; what++) {
                boolean is = solid >= 0 && solid < 4 && what >= 0 && what < 4;
                due("solid(" + solid + ", " + what + ")", table.solid(solid, what), is ? want[solid][what] : NONE);
            }
        }
        for (int bad : WRONG) {
            due("no such SOLID", table.solid(bad, 0), NONE);
            due("no such what", table.solid(0, bad), NONE);
        }
    }

    private static void muchBounds() {
        says("How much there is of M and P in a SOLID's SUM (0: none). HIDDEN: no such SOLID.");
        ScissorsTable table = told(BY_19 + ";" + EVEN_SIDED);
        due("much(1, 2, 3)", table.much(1, 2, 3), -12);
        due("much(0, 13, 19)", table.much(0, 13, 19), 2);
        for (int m = -1; m <= 40; m++) {
            // A new object, so that none has more calls than it may.
            ScissorsTable fresh = told(BY_19 + ";" + EVEN_SIDED);
            for (int p = 0; p <= 40; p++) {
                int want = p != 19 ? 0 : m == 13 ? 2 : m == 29 || m == 34 ? -2 : 0;
                due("much(0, " + m + ", " + p + ")", fresh.much(0, m, p), want);
            }
        }
        due("of the other SOLID alone", table.much(0, 2, 3), 0);
        due("an empty one", table.much(3, 2, 3), 0);
        due("no such SOLID", table.much(4, 2, 3), HIDDEN);
        due("no such M and P", table.much(0, LEAST, LEAST), 0);
        due("no such M and P", table.much(0, GREATEST, GREATEST), 0);
        due("no such M and P", table.much(0, 13, GREATEST), 0);
        due("no such M and P", table.much(0, 13, LEAST), 0);
        for (int bad : WRONG) {
            due("no such SOLID", table.much(bad, 2, 3), HIDDEN);
        }
    }

    private static void alikeBounds() {
        says("Two SOLIDS are ALIKE (each can be cut into the other): of one volume, and all of both SUMS alike.");
        says("Whether two SOLIDS are ALIKE: 0 they are, 1 their volumes are unlike, 2 their SUMS. NONE: no such ones.");
        // SIX 8 of 6 by (2, 3); SIX 8 of none; SIX 8 of 3 and 3; SIX 7 of none.
        String text = "t0:0,0,0/2,0,0/0,2,0/0,0,2;b1:0,0,0/1,1,1;t1:0,0,0/1,0,0/1,1,0/1,1,2;" + "t2:0,0,0/1,0,0/0,1,0/0,0,1;t2:0,0,0/1,0,0/0,1,0/0,0,1;" + CUBE
                + ";b3:0,0,0/1,1,1;t3:0,0,0/1,0,0/1,1,0/1,1,1";
        ScissorsTable table = told(text);
        due("volume and SUM", table.alike(0, 2), 0);
        due("volume and SUM", table.alike(2, 0), 0);
        due("volume, not SUM", table.alike(0, 1), 2);
        due("neither", table.alike(0, 3), 1);
        due("volumes 8 and 7", table.alike(1, 3), 1);
        due("one and the same", table.alike(0, 0), 0);
        ScissorsTable sums = told(CUBE + ";b3:0,0,0/1,1,2");
        due("SUMS, not volume", sums.alike(2, 3), 1);
        due("an empty one and a cube", sums.alike(0, 2), 1);
        due("two empty ones", sums.alike(0, 1), 0);
        for (int bad : new int[] {-1, 4, LEAST, GREATEST}) {
            due("alike(" + bad + ", 0)", table.alike(bad, 0), NONE);
            due("alike(3, " + bad + ")", table.alike(3, bad), NONE);
        }
    }

    private static void unlikeBounds() {
        says("The first term in which two SUMS are unlike: M (0), P (1), by how much the first one has more (2). HIDDEN: there is none, no such ones.");
        ScissorsTable table = told(RIGHT + ";t1:0,0,0/2,0,0/0,3,0/0,0,5;t1" + RIGHT.substring(2) + ";t2:0,0,0/3,0,0/0,2,0/0,0,5");
        // SOLID 0 has (2, 3); SOLID 1 that and (13, 19), (29, 19), (34, 19); SOLID 2 the last three alone.
        int[][] want = {{13, 19, -2}, {13, 19, 2}, {2, 3, 3}, {2, 3, -3}, {2, 3, 3}, {2, 3, -3}};
        int[][] pairs = {{0, 1}, {1, 0}, {1, 2}, {2, 1}, {0, 2}, {2, 0}};
        for (int k = 0; k < pairs.length; k++) {
            for (int what = -1; what <= 3; what++) {
                boolean is = what >= 0 && what < 3;
                due("unlike(" + pairs[k][0] + ", " + pairs[k][1] + ", " + what + ")", table.unlike(pairs[k][0], pairs[k][1], what), is ? want[k][what] : HIDDEN);
            }
        }
        due("there is none", table.unlike(1, 1, 0), HIDDEN);
        due("an empty one", table.unlike(3, 0, 2), -3);
        due("both empty", told(CUBE).unlike(2, 3, 0), HIDDEN);
        for (int bad : new int[] {-1, 4, LEAST, GREATEST}) {
            due("no such SOLID", table.unlike(bad, 0, 0), HIDDEN);
            due("no such SOLID", table.unlike(0, bad, 0), HIDDEN);
            due("neither", table.unlike(bad, bad, 0), HIDDEN);
        }
        for (int bad : WRONG) {
            due("no such what", table.unlike(0, 1, bad), HIDDEN);
        }
    }

    private static void lacksBounds() {
        says("SIX of the first SOLID less the other one's. HIDDEN: no such ones.");
        ScissorsTable table = told(RIGHT + ";" + EVEN_SIDED + ";" + CUBE);
        int[] six = {1, 2, 6, 0};
        for (int one = -1; one <= 4; one++) {
            for (int other = -1; other <= 4; other++) {
                boolean is = one >= 0 && one < 4 && other >= 0 && other < 4;
                due("lacks(" + one + ", " + other + ")", table.lacks(one, other), is ? six[one] - six[other] : HIDDEN);
            }
        }
        for (int bad : WRONG) {
            due("no such SOLID", table.lacks(bad, 0), HIDDEN);
            due("no such SOLID", table.lacks(0, bad), HIDDEN);
        }
        // As much as a TEXT can tell: 16 of the greatest TETS.
        String great = "-9,-9,-9/9,9,-9/9,-9,9/-9,9,9";
        ScissorsTable most = told("t1:" + great + (";t1:" + great).repeat(15));
        due("as much as can be", most.lacks(1, 0), 16 * 11664);
        due("as little as can be", most.lacks(0, 1), -16 * 11664);
    }

    private static void pickBounds() {
        says("PICKED are EDGES, 0 to 6, one behind the other.");
        says("An EDGE is PICKED: how many are. -1, -3 (six are).");
        ScissorsTable table = told(EVEN_SIDED + ";" + RIGHT);
        for (int bad : new int[] {-1, 2, LEAST, GREATEST}) {
            due("no such TET", table.pick(bad, 0), -1);
        }
        for (int bad : new int[] {-1, 6, LEAST, GREATEST}) {
            due("no such EDGE", table.pick(0, bad), -1);
        }
        for (int k = 1; k <= 6; k++) {
            due("count(2) ahead", table.count(2), k - 1);
            due("pick " + k, table.pick(k % 2, k - 1), k);
        }
        due("six are", table.pick(0, 0), -3);
        due("six stay", table.count(2), 6);
        due("six were", table.unpick(), 6);
        due("the first again", table.pick(0, 5), 1);
        due("of none", new ScissorsTable().pick(0, 0), -1);
    }

    private static ScissorsTable picked() {
        ScissorsTable table = told(OF_4 + ";t0:0,0,0/-4,0,0/0,4,0/0,0,4");
        table.pick(0, 3);
        table.pick(1, 4);
        return table;
    }

    private static void unpickBounds() {
        says("None is PICKED any more: how many were. (So behind each text(), cut(), join(), turn(), give(), move(), drop() that is done, too.)");
        due("none were", new ScissorsTable().unpick(), 0);
        ScissorsTable table = picked();
        due("two were", table.unpick(), 2);
        due("none were", table.unpick(), 0);
        due("no RANK", table.rank(), 0);
        String[] names = {"cut", "join", "turn", "give", "move", "drop", "cut", "join", "turn", "give", "move", "drop"};
        Call[] calls = {t -> t.cut(0, 1, 1, 1), t -> t.join(0, 1), t -> t.turn(1, 47), t -> t.give(1, 3), t -> t.move(0, 0, 0, 1), t -> t.drop(1),
            t -> t.cut(0, 3, 3, 3), t -> t.join(0, 0), t -> t.turn(1, 0), t -> t.give(1, 0), t -> t.move(0, 0, 0, 0), t -> t.drop(2)};
        for (int k = 0; k < calls.length; k++) {
            table = picked();
            boolean done = calls[k].on(table) >= 0;
            due(names[k] + " is done", done, k < 6);
            due("PICKED behind " + names[k], table.count(2), done ? 0 : 2);
            due("RANK behind " + names[k], table.rank(), done ? 0 : 1);
        }
        table = picked();
        write(table, RIGHT + ";");
        table.text();
        due("behind a FAULT", table.count(2), 2);
        table.end(26);
        due("told", table.text(), 0);
        due("behind text()", table.count(2), 0);
        table = picked();
        table.plan(2, 2, 2, 1, 4, 2);
        table.cutsTo(0, 5);
        table.feed(1, 2, 3, 4, 5);
        due("behind all others", table.count(2), 2);
    }

    private static void ranks() {
        says("`int rank()`: RANK of what is PICKED.");
        says("Their ANGLES hang together, if some whole numbers of times, not all 0, they add up to EVEN. RANK: the most of them that don't.");
        // EVEN; (2, 3) once; (2, 3) twice back; then (1, 5); (1, 13); (1, 5) and (1, 13).
        ScissorsTable table = told(RIGHT + ";" + EVEN_SIDED + ";" + square(1, 0, 2, 1) + ";" + square(1, 0, 3, 2) + ";" + square(1, 0, 4, 7));
        due("none", table.rank(), 0);
        int[][] picks = {{0, 0}, {0, 3}, {1, 0}, {2, 0}, {3, 0}, {4, 0}};
        int[] want = {0, 1, 1, 2, 3, 3};
        for (int k = 0; k < 6; k++) {
            table.pick(picks[k][0], picks[k][1]);
            due("RANK of " + (k + 1), table.rank(), want[k]);
        }
        due("the EVEN one hangs alone", table.relation(0), 1);
        table.unpick();
        table.pick(0, 3);
        table.pick(0, 3);
        due("the same EDGE twice", table.rank(), 1);
        due("once less", table.relation(0), -1);
        due("once", table.relation(1), 1);
    }

    private static void relationIs(ScissorsTable table, int... want) {
        for (int i = 0; i < want.length; i++) {
            due("relation(" + i + ")", table.relation(i), want[i]);
        }
        due("behind the last", table.relation(want.length), HIDDEN);
    }

    private static void pickAll(ScissorsTable table, int... tets) {
        table.unpick();
        for (int tet : tets) {
            table.pick(tet, 0);
        }
    }

    private static void relations() {
        says("RELATION: of the first PICKED one that hangs together with those ahead of it: the times, its own above 0, without a common part; "
                + "0 for those behind it.");
        // By (1, 5): 1, -1, 2, 4; by (1, 13): -1; an EVEN one.
        ScissorsTable table = told(square(1, 0, 2, 1) + ";" + square(1, 0, -2, 1) + ";" + square(2, 1, 2, -1) + ";" + square(3, 4, 3, -4)
                + ";" + square(1, 0, 3, 2) + ";" + square(1, 0, 1, 1));
        pickAll(table, 0, 1);
        relationIs(table, 1, 1);
        pickAll(table, 0, 2);
        relationIs(table, -2, 1);
        pickAll(table, 2, 0);
        relationIs(table, -1, 2);
        pickAll(table, 1, 2);
        relationIs(table, 2, 1);
        pickAll(table, 2, 1);
        relationIs(table, 1, 2);
        pickAll(table, 2, 3);
        relationIs(table, -2, 1);
        pickAll(table, 3, 2);
        relationIs(table, -1, 2);
        pickAll(table, 3, 0);
        relationIs(table, -1, 4);
        pickAll(table, 4, 3, 1, 0, 5);
        relationIs(table, 0, 1, 4, 0, 0);
        pickAll(table, 4, 0, 5, 2);
        relationIs(table, 0, 0, 1, 0);
        pickAll(table, 5, 5);
        relationIs(table, 1, 0);
        pickAll(table, 4, 0);
        relationIs(table, HIDDEN, HIDDEN);
    }

    private static void sixPicked() {
        says("the times of the i-th PICKED. HIDDEN: there is none, no such one");
        // 6 + i; 11 + 8i, 5 and 37; 3 + 2i, 13 back; 4 + i; 5 + 2i, 29 back; 163 + 74i: 5, 13 back, 17 back, 29; 9 + 4i, 97.
        String five = square(1, 0, 6, 1) + ";" + square(6, 1, 2, -1) + ";" + square(1, 0, 3, 2) + ";" + square(1, 0, 4, 1) + ";" + square(1, 0, 5, 2);
        ScissorsTable table = told(five + ";t0:0,-9,-9/1,-9,-9/0,-5,-2/0,9,4;" + square(1, 0, 9, 4));
        primesAre(table, 5, 0, 5, 1, 13, -1, 17, -1, 29, 1);
        pickAll(table, 0, 1, 2, 3, 4, 5);
        due("RANK", table.rank(), 5);
        relationIs(table, 1, -1, -1, 1, 1, 1);
        pickAll(table, 0, 1, 2, 3, 4, 6);
        due("RANK", table.rank(), 6);
        relationIs(table, HIDDEN, HIDDEN, HIDDEN, HIDDEN, HIDDEN, HIDDEN);
        // The other way round: the last has 6 + i, once less.
        pickAll(table, 5, 4, 3, 2, 1, 0);
        relationIs(table, 1, 1, 1, -1, -1, 1);
    }

    private static void relationBounds() {
        says("HIDDEN: there is none, no such one, a number beyond ints.");
        ScissorsTable table = told(RIGHT + ";" + EVEN_SIDED);
        for (int i = -1; i <= 6; i++) {
            due("nothing PICKED, relation(" + i + ")", table.relation(i), HIDDEN);
        }
        table.pick(0, 3);
        due("there is none", table.relation(0), HIDDEN);
        table.pick(1, 3);
        due("now there is", table.relation(0), 2);
        due("the last", table.relation(1), 1);
        due("behind the last", table.relation(2), HIDDEN);
        for (int bad : WRONG) {
            due("relation(" + bad + ")", table.relation(bad), HIDDEN);
        }
    }

    private static void rankOfBounds() {
        says("RANK of the SUMS of SOLIDS (bits). NONE: not 0 .. 15.");
        ScissorsTable table = told(BY_19 + ";" + EVEN_SIDED + ";t2:0,0,0/1,0,0/0,1,0/0,0,1;t3:0,0,0/1,0,0/0,2,0/0,0,3");
        for (int solids = -3; solids <= 18; solids++) {
            int want = Integer.bitCount(solids) - ((solids & 6) == 6 ? 1 : 0);
            due("rankOf(" + solids + ")", table.rankOf(solids), solids < 0 || solids > 15 ? NONE : want);
        }
        for (int bad : WRONG) {
            due("rankOf(" + bad + ")", table.rankOf(bad), NONE);
        }
        due("all four", told(BY_19 + ";" + EVEN_SIDED + ";t2:0,0,0/1,0,0/0,1,0/0,0,2;t3:0,0,0/1,0,0/0,2,0/0,0,3").rankOf(15), 4);
        due("of none", new ScissorsTable().rankOf(15), 0);
        due("0 is no SOLID", table.rankOf(0), 0);
    }

    private static void relationOfBounds() {
        says("RELATION of these: the times of a SOLID (0 for one that is not of these). HIDDEN: there is none, no such ones, a number beyond ints.");
        // By (2, 3): -12, 3, 9 in SOLIDS 1, 2, 3; another in SOLID 0.
        ScissorsTable table = told(BY_19 + ";" + EVEN_SIDED + ";t2:0,0,0/1,0,0/0,1,0/0,0,1;t3:0,0,0/3,0,0/0,3,0/0,0,3");
        int[][] want = new int[16][];
        want[6] = new int[] {0, 1, 4, 0};
        want[7] = want[6];
        want[10] = new int[] {0, 3, 0, 4};
        want[11] = want[10];
        want[12] = new int[] {0, 0, -3, 1};
        want[13] = want[12];
        want[14] = want[6];
        want[15] = want[6];
        for (int solids = -1; solids <= 16; solids++) {
            for (int solid = -1; solid <= 4; solid++) {
                boolean is = solids >= 0 && solids <= 15 && solid >= 0 && solid < 4 && want[solids] != null;
                due("relationOf(" + solids + ", " + solid + ")", table.relationOf(solids, solid), is ? want[solids][solid] : HIDDEN);
            }
        }
        for (int bad : WRONG) {
            due("no such SOLIDS", table.relationOf(bad, 1), HIDDEN);
            due("no such SOLID", table.relationOf(6, bad), HIDDEN);
        }
        says("Of SOLIDS (bits) likewise by their SUMS, numbers rising: RANK, RELATION.");
        ScissorsTable empty = new ScissorsTable();
        for (int solids = 1; solids < 16; solids++) {
            for (int solid = 0; solid < 4; solid++) {
                due("of empty ones", empty.relationOf(solids, solid), solid == Integer.numberOfTrailingZeros(solids) ? 1 : 0);
            }
        }
        due("of none", empty.relationOf(0, 0), HIDDEN);
        ScissorsTable lone = told(RIGHT + ";" + EVEN_SIDED);
        due("an empty one behind two", lone.relationOf(13, 2), 1);
        due("those behind it", lone.relationOf(13, 3), 0);
    }

    /** The farthest numbers that were found: a TEXT of 600 bytes, 48 TETS in four SOLIDS; ints have room for fifteen times as much. */
    private static void farRelation() {
        says("a number beyond ints");
        String slant = "t0:-9,0,0/-9,9,9/9,0,9/9,9,0;";
        String thin = "t0:0,5,7/0,-7,-9/5,7,-7/5,-9,5;";
        String great = "t0:-9,-9,-9/-9,9,9/9,-9,9/9,9,-9;";
        String text = slant + thin + great + "t0:-9,0,0/-9,7,7/5,0,7/5,7,0;" + great + thin + thin + slant + thin + great + slant
                + "p0:9/9,-9/-9,-9/-9,9/9,0;" + thin + slant + great + great + slant + "t0:-9,-9,-9/-9,8,8/8,-9,8/8,8,-9;" + slant + "p0:9/9,9/9,-9/-9,-9";
        ScissorsTable table = new ScissorsTable();
        due("bytes", write(table, text), 600);
        due("text()", table.text(), 0);
        int[] cuts = {2, 3, 3, -3, 4, 3, -3, 3, 9, -3, 3, 3, 11, -3, -9, 0, 13, -9, -3, 9, 14, 0, 0, 0, 15, 0, 0, 0, 19, -3, 3, 3, 20, -3, -3, -3, 24, 9, -3, 0, 26, 9, 0, 9};
        for (int k = 0; k < cuts.length; k += 4) {
            due("cut", table.cut(cuts[k], cuts[k + 1], cuts[k + 2], cuts[k + 3]) > 1, true);
        }
        due("48", table.count(0), 48);
        // The SOLID of each TET; 4: it is dropped.
        String fates = "201210020120024430212212001112121211202121111134";
        for (int tet = 47; tet >= 0; tet--) {
            int fate = fates.charAt(tet) - '0';
            if (fate == 4) {
                table.drop(tet);
            } else if (fate > 0) {
                due("give", table.give(tet, fate), 0);
            }
        }
        int[][] much = {{-1315, 0, 0}, {45, -1626, 45}, {180, 785, 976}, {90, 18, -18}};
        int[] times = {10170396, 2778858, 2494818, 142221721};
        for (int solid = 0; solid < 4; solid++) {
            due("(1, 5) of " + solid, table.much(solid, 1, 5), much[solid][0]);
            due("(2, 3) of " + solid, table.much(solid, 2, 3), much[solid][1]);
            due("(5, 3) of " + solid, table.much(solid, 5, 3), much[solid][2]);
            due("times of " + solid, table.relationOf(15, solid), times[solid]);
        }
        due("RANK", table.rankOf(15), 3);
    }

    private static void multiplesAre(ScissorsTable table, int solid, int other, int first, int second, long volumes) {
        due("first of " + solid + ", " + other, table.multiples(solid, other, 0), first);
        due("other of " + solid + ", " + other, table.multiples(solid, other, 1), second);
        due("volumes of " + solid + ", " + other, table.multiples(solid, other, 2), volumes);
    }

    private static void multiplesBounds() {
        says("MULTIPLES: of the first (0), of the other one (1), by how much volumes of these differ "
                + "(2: SIX of so many of the first less that of so many of the other one).");
        says("MULTIPLES of two SOLIDS whose SUMS are not 0: the least numbers above 0 of times by which both SUMS are alike.");
        // By (2, 3): 6 of SIX 8, 12 of SIX 64, 9 of SIX 27, 6 of SIX 2 in one and a cube.
        ScissorsTable table = told("t0:0,0,0/2,0,0/0,2,0/0,0,2;t1" + OF_4.substring(2) + ";t2:0,0,0/3,0,0/0,3,0/0,0,3;t3" + RIGHT.substring(2) + ";t3" + RIGHT.substring(2)
                + ";b3:0,0,0/1,1,1");
        multiplesAre(table, 0, 0, 1, 1, 0);
        multiplesAre(table, 0, 1, 2, 1, 2 * 8 - 64);
        multiplesAre(table, 1, 0, 1, 2, 64 - 2 * 8);
        multiplesAre(table, 1, 2, 3, 4, 3 * 64 - 4 * 27);
        multiplesAre(table, 2, 1, 4, 3, 4 * 27 - 3 * 64);
        multiplesAre(table, 0, 2, 3, 2, 3 * 8 - 2 * 27);
        multiplesAre(table, 0, 3, 1, 1, 0);
        multiplesAre(table, 3, 2, 3, 2, 3 * 8 - 2 * 27);
        // Below 0 both, and of three terms both; no common part but 1.
        ScissorsTable more = told(EVEN_SIDED + ";t2:0,0,0/2,2,0/2,0,2/0,2,2;t0:0,0,0/1,0,0/0,1,0/0,0,4;t3:0,0,0/2,0,0/0,2,0/0,0,8");
        multiplesAre(more, 1, 2, 2, 1, 2 * 2 - 16);
        multiplesAre(more, 0, 3, 2, 1, 2 * 4 - 32);
        multiplesAre(more, 3, 0, 1, 2, 32 - 2 * 4);
        ScissorsTable prime = told("t0:0,0,0/5,0,0/0,5,0/0,0,5;t1:0,0,0/7,0,0/0,7,0/0,0,7");
        multiplesAre(prime, 0, 1, 7, 5, 7 * 125 - 5 * 343);
        ScissorsTable one = told(RIGHT + ";t1:0,0,0/9,0,0/0,9,0/0,0,9");
        multiplesAre(one, 0, 1, 9, 1, 9 - 729);
    }

    private static void multiplesNone() {
        says("HIDDEN: there are none, a SUM is 0, no such ones.");
        ScissorsTable table = told(RIGHT + ";" + EVEN_SIDED + ";t2:0,0,0/2,0,0/0,3,0/0,0,5");
        for (int what = 0; what < 3; what++) {
            due("of other signs", table.multiples(0, 1, what), HIDDEN);
            due("of other signs", table.multiples(1, 0, what), HIDDEN);
            due("of other terms", table.multiples(0, 2, what), HIDDEN);
            due("of other terms", table.multiples(2, 0, what), HIDDEN);
            due("the other SUM is 0", table.multiples(0, 3, what), HIDDEN);
            due("the first SUM is 0", table.multiples(3, 0, what), HIDDEN);
            due("both SUMS are 0", table.multiples(3, 3, what), HIDDEN);
        }
        // A SUM with TETS that is 0, and one with a term more, ahead or behind.
        ScissorsTable cube = told(RIGHT + ";" + CUBE + ";" + square(1, 0, 2, 1).replace("t0", "t1") + ";t3" + RIGHT.substring(2) + ";t3:0,0,0/2,0,0/0,3,0/0,0,5");
        due("a cube", cube.multiples(0, 2, 0), HIDDEN);
        due("a cube", cube.multiples(2, 0, 0), HIDDEN);
        due("a term more behind", cube.multiples(0, 3, 0), HIDDEN);
        due("a term more behind", cube.multiples(3, 0, 0), HIDDEN);
        due("a term more ahead", cube.multiples(1, 0, 0), HIDDEN);
        due("a term more ahead", cube.multiples(0, 1, 0), HIDDEN);
        due("alike", cube.multiples(3, 3, 0), 1);
        // The same terms, but not as much of each: 3 and 6 of (2, 3), all others alike.
        ScissorsTable parts = told(BY_19 + ";t0" + RIGHT.substring(2) + ";t1:0,0,0/2,0,0/0,3,0/0,0,5;t1:0,0,0/2,0,0/0,2,0/0,0,2");
        due("not as much of each", parts.multiples(0, 1, 0), HIDDEN);
        due("not as much of each", parts.multiples(1, 0, 2), HIDDEN);
        for (int bad : new int[] {-1, 3, LEAST, GREATEST}) {
            due("no such what", table.multiples(0, 0, bad), HIDDEN);
        }
        for (int bad : new int[] {-1, 4, LEAST, GREATEST}) {
            due("no such SOLID", table.multiples(bad, 0, 0), HIDDEN);
            due("no such SOLID", table.multiples(0, bad, 0), HIDDEN);
            due("neither", table.multiples(bad, bad, 0), HIDDEN);
        }
    }

    private static void mostOfNone() {
        says("HIDDEN: no such what. (0, 1, 3: 0 without.)");
        ScissorsTable table = new ScissorsTable();
        int[] want = {0, 0, 0, 0, 0, 15, 0};
        for (int what = -1; what <= 7; what++) {
            due("most(" + what + ")", table.most(what), what < 0 || what > 6 ? HIDDEN : want[what]);
        }
        for (int bad : WRONG) {
            due("most(" + bad + ")", table.most(bad), HIDDEN);
        }
        // TETS, but no SUM.
        table = told("t1:0,0,0/1,0,0/1,1,0/1,1,1");
        want = new int[] {0, 0, 6, 1, 0, 15, 0};
        for (int what = 0; what < 7; what++) {
            due("most(" + what + ") of EVEN angles alone", table.most(what), want[what]);
        }
    }

    private static void mostBounds() {
        says("The greatest M (0), P (1) of all SUMS, EDGES of all TETS that are EVEN (2), the greatest SIX of a TET (3), TETS that have a POINT but CORNERS (4)");
        ScissorsTable table = told(RIGHT + ";" + EVEN_SIDED + ";t2:0,0,0/2,0,0/0,1,0/0,0,1;t3:1,0,0/0,1,0/0,0,1/-1,-1,-1;" + BY_19.replace("t0", "t3"));
        due("M", table.most(0), 34);
        due("P", table.most(1), 19);
        due("EVEN", table.most(2), even(table));
        due("SIX", table.most(3), 30);
        due("a POINT on an EDGE, one within, many; two have none", table.most(4), 3);
        due("without a SUM", table.most(5), 0);
        table.drop(4);
        due("SIX then", table.most(3), 4);
        due("a POINT", table.most(4), 2);
        table.drop(3);
        table.drop(2);
        due("no POINT", table.most(4), 0);
        due("M then", table.most(0), 2);
        due("P then", table.most(1), 3);
        due("without a SUM", table.most(5), 12);
        // The greatest P is not with the greatest M: (1, 97) and (2, 3).
        ScissorsTable cross = told(square(1, 0, 9, 4));
        int m = 0;
        int p = 0;
        for (int i = 0; i < cross.solid(0, 3); i++) {
            m = Math.max(m, cross.term(0, i, 0));
            p = Math.max(p, cross.term(0, i, 1));
        }
        due("M", cross.most(0), m);
        due("P", cross.most(1), p);
    }

    private static int even(ScissorsTable table) {
        int even = 0;
        for (int k = 0; k < 6 * table.count(0); k++) {
            even += table.edge(k / 6, k % 6, 4) == NONE ? 0 : 1;
        }
        return even;
    }

    private static void mostCouples() {
        says("SOLIDS whose SUM is 0 (5, bits), couples of SOLIDS with TETS that are ALIKE (6)");
        String tet = RIGHT.substring(2);
        due("one", told("t0" + tet).most(6), 0);
        due("two of one TET each", told("t0" + tet + ";t3" + tet).most(6), 1);
        due("three", told("t0" + tet + ";t2" + tet + ";t3" + tet).most(6), 3);
        due("all four", told("t0" + tet + ";t1" + tet + ";t2" + tet + ";t3" + tet).most(6), 6);
        due("two and two", told("t0" + tet + ";t1" + tet + ";t2:0,0,0/2,0,0/0,2,0/0,0,2;t3:0,0,0/2,0,0/0,2,0/0,0,2").most(6), 2);
        due("of one volume alone", told("t0" + tet + ";t1:0,0,0/1,0,0/1,1,0/1,1,1").most(6), 0);
        due("of one SUM alone", told("b0:0,0,0/1,1,1;b1:0,0,0/1,1,2").most(6), 0);
        due("empty ones are no couple", told("b0:0,0,0/1,1,1").most(6), 0);
        due("of one TET and of two", told("t0:0,0,0/2,0,0/0,2,0/0,0,2;t1:1,0,0/2,0,0/0,2,0/0,0,2;t1:0,0,0/1,0,0/0,2,0/0,0,2").most(6), 1);
        for (int solid = 0; solid < 4; solid++) {
            due("without a SUM but " + solid, told("t" + solid + tet).most(5), 15 - (1 << solid));
            due("with a cube at " + solid, told("b" + solid + ":0,0,0/1,1,1").most(5), 15);
        }
    }
}
