/** For each promise of the document: ordinary inputs, the edges that it names, wrong inputs; answers worked out by hand. */
public final class PromiseTest extends Checks {
    public static void main(String[] args) {
        promise1();
        promise2();
        promise3();
        promise4();
        promise4Prisms();
        promise5();
        promise5LeftOut();
        promise5Full();
        promise5Order();
        promise6();
        promise7();
        promise8();
        promise9();
        promise9Even();
        promise10();
        promise11();
        promise12();
        promise13();
        promise14();
        promise15();
        promise16();
        promise17();
        promise18();
        promise18Edges();
        promise19();
        promise19Axes();
        promise19Refused();
        promise20();
        promise21();
        promise22();
        promise23();
        promise24();
        promise25();
        promise26();
        promise27();
        promise28();
        promise29();
        promise30();
        promise31();
        promise32();
        promise33();
        promise34();
        promise35();
        promise36();
        promise37();
        promise38();
        promise39();
        close("PromiseTest");
    }

    private static void promise(int number) {
        about("promise " + number);
    }

    private static void promise1() {
        promise(1);
        ScissorsTable table = new ScissorsTable();
        due("count(0)", table.count(0), 0);
        due("count(1)", table.count(1), 0);
        due("count(2)", table.count(2), 0);
        due("count(3)", table.count(3), NONE);
        due("NONE", ScissorsTable.NONE, -1);
        due("HIDDEN", ScissorsTable.HIDDEN, -1000000);
        for (int solid = 0; solid < 4; solid++) {
            due("solid(, 0)", table.solid(solid, 0), 0);
            due("solid(, 1)", table.solid(solid, 1), 0);
        }
        due("cut", table.cut(0, 0, 0, 0), -1);
        due("drop", table.drop(0), -1);
        due("rank", table.rank(), 0);
        due("step", table.step(0, 0), HIDDEN);
    }

    private static void promise2() {
        promise(2);
        ScissorsTable table = new ScissorsTable();
        due("nothing", table.feed(0, 0, 0, 0, 0), 0);
        due("bytes of 0 are left out", table.feed(0x74003000, 0, 0x3A, 0x00FF0000, 0x01020304), 8);
        due("the highest first", table.fault(), 3);
        table.end(0);
        for (int k = 1; k <= 30; k++) {
            due("twenty more", table.feed(0x20202020, 0x20202020, 0x20202020, 0x20202020, 0x20202020), 20 * k);
        }
        due("more than 600", table.feed(0, 0, 0, 0, 1), NONE);
        due("600 and nothing", table.feed(0, 0, 0, 0, 0), 600);
        due("end(597)", table.end(597), true);
        due("four more than fit", table.feed(0x20202020, 0, 0, 0, 0), NONE);
        due("nothing came", table.count(1), 597);
        due("three fit", table.feed(0x20202000, 0, 0, 0, 0), 600);
        due("a byte above 127", table.end(0) ? table.feed(-1, 0, 0, 0, LEAST) : 0, 5);
        due("it is a fault", table.fault(), 0);
    }

    private static void promise3() {
        promise(3);
        ScissorsTable table = new ScissorsTable();
        due("end(0) of none", table.end(0), true);
        due("end(1) of none", table.end(1), false);
        due("end(-1) of none", table.end(-1), false);
        write(table, RIGHT + ";x");
        due("end(29)", table.end(29), false);
        due("end(28)", table.end(28), true);
        due("end(-1)", table.end(-1), false);
        due("end(least)", table.end(LEAST), false);
        due("end(greatest)", table.end(GREATEST), false);
        due("all stay", table.count(1), 28);
        due("fault at x", table.fault(), 27);
        due("end(26)", table.end(26), true);
        due("the first 26", table.fault(), NONE);
        due("count(1)", table.count(1), 26);
        due("text", table.text(), 0);
        due("end(1) behind text", table.end(1), false);
    }

    private static void promise4() {
        promise(4);
        faultIs("", 0);
        faultIs("   ", 3);
        faultIs("x", 0);
        faultIs(" x", 1);
        faultIs("T0:", 0);
        faultIs(";", 0);
        faultIs("t", 1);
        faultIs("t4:", 1);
        faultIs("t3", 2);
        faultIs("t33:", 2);
        faultIs("t-1", 1);
        faultIs("t0;", 2);
        faultIs(RIGHT, NONE);
        faultIs(RIGHT + ";", 27);
        faultIs(RIGHT + "; ", 28);
        faultIs(RIGHT + ";;", 27);
        faultIs(RIGHT + ";" + EVEN_SIDED, NONE);
        faultIs(RIGHT + "/", 26);
        faultIs(RIGHT + ",0", 26);
        faultIs(RIGHT + "2", 26);
        faultIs(RIGHT + " 2", 27);
        faultIs(RIGHT + "  ", NONE);
        faultIs("  " + RIGHT, NONE);
        faultIs("t 0 : 0 , 0 , 0 / - 1", 19);
        faultIs(" t 0 : 0 , 0 , 0 / 1 , 0 , 0 / 0 , 1 , 0 / 0 , 0 , -1 ; " + EVEN_SIDED, NONE);
        faultIs("t0:--1", 4);
        faultIs("t0:+1", 3);
        faultIs("t0:-,", 4);
        faultIs("t0:-", 4);
        faultIs("t0:0.", 4);
        faultIs("t0:0,0/", 6);
        faultIs("t0:0,0,0,", 8);
        faultIs("t0:0,0,0;", 8);
        faultIs("t0:-0,-9,9/-0,9,9/1,1,1/0,0,0", NONE);
        faultIs("t0:10,", 4);
        // : is the sign behind 9, / that ahead of 0.
        faultIs("t:", 1);
        faultIs("t/", 1);
        faultIs("t0::", 3);
        faultIs("t0:/", 3);
        faultIs("t0:-:", 4);
        faultIs("t0:-/", 4);
        faultIs("b0:0,0,0/:", 9);
        faultIs("p0::", 3);
        faultIs("b0:0,0,0/1,1,1", NONE);
        faultIs("b0:0,0,0/0,1,1", 9);
        faultIs("b0:0,0,0/1,1,-1", 13);
        faultIs("b0:-9,0,0/9,9,9", NONE);
        faultIs("b0:0,0,0/1,1", 12);
        faultIs("b0:0,0,0/1,1,1/", 14);
        faultIs("b0:0,0,0,1", 8);
        faultIs("b0:0,0/", 6);
        faultIs("b3:0,0,0/1,1,12", 14);
        faultIs("b0:0,0,0/1,1,1;b", 16);
        faultIs("b0:0,0,0/1,1,1 b", 15);
        faultIs("b0:0,0,0/1,1,1\t", 14);
        faultIs("b0:0,0,0/1,1,\u00b9", 13);
    }

    private static void promise4Prisms() {
        promise(4);
        faultIs("p0:", 3);
        faultIs("p0:0", 3);
        faultIs("p0:-1", 3);
        faultIs("p0:1", 4);
        faultIs("p0:10", 4);
        faultIs("p0:9;", 4);
        faultIs("p0:1,", 4);
        faultIs("p0:1/0,0/1,0", 12);
        faultIs("p0:1/0,0/1,0;", 12);
        faultIs("p0:1/0,0,0", 8);
        faultIs("p0:1/0/", 6);
        faultIs("p0:1/0,0/1,0/0,1", NONE);
        faultIs("p0:1/0,0/1,0/0,1/", 17);
        faultIs("p0:1/0,0/1,0/0,1 / - 1", 20);
        faultIs("p 0 : 1 / 0 , 0 / 1 , 0 / -9 , 9 / 9 , -9 / 0 , 0 / 0 , 0 ", NONE);
        faultIs("p0:1/0,0/1,0/0,1/0,0/0,0/0,0/0,0", 28);
        faultIs("p0:1/0,0/1,0/0,1/0,0/0,0/0,0 /", 29);
        faultIs("p0:1/0,0/1,0/0,1/0,0/0,0/0,0;" + RIGHT, NONE);
        faultIs("p0:1/0,0/1,0/0,12", 16);
    }

    private static void promise5() {
        promise(5);
        ScissorsTable table = told(RIGHT + ";" + EVEN_SIDED);
        due("count(0)", table.count(0), 2);
        due("the TAPE is empty", table.count(1), 0);
        table.pick(0, 3);
        table.plan(2, 2, 2, 1, 4, 2);
        write(table, "t0:");
        due("a fault", table.text(), NONE);
        due("TETS stay", table.count(0), 2);
        due("the TAPE stays", table.count(1), 3);
        due("PICKED stay", table.count(2), 1);
        due("SUMS stay", table.much(1, 2, 3), -12);
        table.end(0);
        due("an empty TAPE", table.text(), NONE);
        due("TETS stay", table.count(0), 2);
        write(table, "t2:0,0,0/2,0,0/0,2,0/0,0,2");
        due("told anew", table.text(), 0);
        due("the old TETS are gone", table.count(0), 1);
        due("PICKED are gone", table.count(2), 0);
        due("the PLAN stays", table.count(3), 1);
        due("old SUMS are gone", table.much(1, 2, 3), 0);
        due("a new SUM", table.much(2, 2, 3), 6);
        write(table, "t2:0,0,0/0,0,0/0,2,0/0,0,2");
        due("all left out", table.text(), 1);
        due("none then", table.count(0), 0);
        due("no SUM", table.solid(2, 3), 0);
    }

    private static void promise5LeftOut() {
        promise(5);
        leavesOut("t0:0,0,0/1,0,0/0,1,0/1,1,0", 1, 0);
        leavesOut("t0:0,0,0/1,1,1/2,2,2/0,5,1;" + RIGHT, 1, 1);
        leavesOut("b0:1,0,0/8,9,9", 0, 6);
        leavesOut("b0:1,0,0/9,9,9", 1, 0);
        leavesOut("b0:0,1,0/9,9,9", 1, 0);
        leavesOut("b0:0,0,1/9,9,9", 1, 0);
        leavesOut("b0:9,9,9/1,1,1", 1, 0);
        leavesOut("b0:-9,-9,-9/9,9,9", 0, 6);
        leavesOut("p0:1/0,0/1,0/0,1", 0, 3);
        leavesOut("p0:1/0,0/0,1/1,0", 0, 3);
        leavesOut("p0:1/0,0/1,0/2,0", 1, 0);
        leavesOut("p0:1/0,0/1,0/1,0", 1, 0);
        leavesOut("p0:1/0,0/2,0/2,2/0,2", 0, 6);
        leavesOut("p0:1/0,0/2,0/0,2/2,2", 1, 0);
        leavesOut("p0:1/0,0/4,0/1,1/0,4", 1, 0);
        leavesOut("p0:1/0,0/1,0/2,0/0,2", 1, 0);
        leavesOut("p0:9/2,0/1,2/-1,2/-2,0/-1,-2/1,-2", 0, 12);
        leavesOut("p0:9/1,-2/-1,-2/-2,0/-1,2/1,2/2,0", 0, 12);
        // Each corner by corner turns left, but it goes round twice.
        leavesOut("p0:1/0,5/-3,-4/5,1/-5,1/3,-4", 1, 0);
        leavesOut(RIGHT + ";b0:9,9,9/1,1,1;" + EVEN_SIDED + ";p0:1/0,0/1,0/2,0", 2, 2);
    }

    private static void promise5Full() {
        promise(5);
        String boxes = "b0:0,0,0/1,1,1;".repeat(7);
        leavesOut(boxes + "b1:0,0,0/2,2,2", 0, 48);
        leavesOut(boxes + "b1:0,0,0/2,2,2;" + RIGHT, 1, 48);
        leavesOut(boxes + RIGHT + ";b1:0,0,0/2,2,2;" + RIGHT, 1, 44);
        leavesOut(boxes + "p1:1/0,0/2,0/2,2/0,2;p1:1/0,0/2,0/2,2", 1, 48);
        leavesOut(boxes + "p1:1/0,0/1,0/0,1;p1:1/0,0/2,0/2,2/0,2;p1:1/0,0/1,0/0,1", 1, 48);
        leavesOut(boxes + "p0:9/2,0/1,2/-1,2/-2,0/-1,-2/1,-2;p0:9/2,0/1,2/-1,2/-2,0", 1, 48);
        leavesOut("b0:0,0,0/1,1,1;".repeat(9) + RIGHT, 2, 48);
    }

    private static void promise5Order() {
        promise(5);
        ScissorsTable table = told("b2:1,2,3/4,5,6;p1:7/1,2/3,2/4,5/0,6");
        cornersAre(table, 0, 1, 2, 3, 5, 2, 3, 5, 7, 3, 5, 7, 9);
        cornersAre(table, 1, 1, 2, 3, 5, 2, 3, 5, 2, 9, 5, 7, 9);
        cornersAre(table, 2, 1, 2, 3, 1, 7, 3, 5, 7, 3, 5, 7, 9);
        cornersAre(table, 3, 1, 2, 3, 1, 7, 3, 1, 7, 9, 5, 7, 9);
        cornersAre(table, 4, 1, 2, 3, 1, 2, 9, 5, 2, 9, 5, 7, 9);
        cornersAre(table, 5, 1, 2, 3, 1, 2, 9, 1, 7, 9, 5, 7, 9);
        cornersAre(table, 6, 1, 2, 0, 3, 2, 0, 4, 5, 0, 4, 5, 7);
        cornersAre(table, 7, 1, 2, 0, 3, 2, 0, 3, 2, 7, 4, 5, 7);
        cornersAre(table, 8, 1, 2, 0, 1, 2, 7, 3, 2, 7, 4, 5, 7);
        cornersAre(table, 9, 1, 2, 0, 4, 5, 0, 0, 6, 0, 0, 6, 7);
        cornersAre(table, 10, 1, 2, 0, 4, 5, 0, 4, 5, 7, 0, 6, 7);
        cornersAre(table, 11, 1, 2, 0, 1, 2, 7, 4, 5, 7, 0, 6, 7);
        due("tet(0, 0)", table.tet(0, 0), 2);
        due("tet(6, 0)", table.tet(6, 0), 1);
        ScissorsTable signs = told("t3: -9 , 9 , -0/0,0,0/1,-2,3/0,0,1");
        cornersAre(signs, 0, -9, 9, 0, 0, 0, 0, 1, -2, 3, 0, 0, 1);
    }

    private static void promise6() {
        promise(6);
        ScissorsTable table = told(RIGHT + ";" + EVEN_SIDED);
        write(table, "abc");
        table.pick(0, 0);
        table.plan(4, 4, 4, 4, 4, 4);
        due("count(0)", table.count(0), 2);
        due("count(1)", table.count(1), 3);
        due("count(2)", table.count(2), 1);
        due("count(3)", table.count(3), 0);
        due("count(4)", table.count(4), HIDDEN);
        due("count(-1)", table.count(-1), HIDDEN);
        due("count(least)", table.count(LEAST), HIDDEN);
        due("count(greatest)", table.count(GREATEST), HIDDEN);
    }

    private static void promise7() {
        promise(7);
        ScissorsTable table = told(EVEN_SIDED + ";t3:-9,-9,-9/9,9,-9/9,-9,9/-9,9,9;" + BY_19);
        due("tet(0, 0)", table.tet(0, 0), 1);
        due("tet(0, 1)", table.tet(0, 1), 2);
        due("tet(1, 0)", table.tet(1, 0), 3);
        due("tet(1, 1)", table.tet(1, 1), 2 * 18 * 18 * 18);
        due("tet(2, 1)", table.tet(2, 1), 30);
        for (int bad : new int[] {-1, 3, 48, LEAST, GREATEST}) {
            due("tet(" + bad + ", 0) throws", tetThrows(table, bad, 0), true);
        }
        for (int bad : new int[] {-1, 2, LEAST, GREATEST}) {
            due("tet(0, " + bad + ") throws", tetThrows(table, 0, bad), true);
        }
        due("tet(0, 0) throws", tetThrows(table, 0, 0), false);
        due("of none throws", tetThrows(new ScissorsTable(), 0, 0), true);
    }

    private static void promise8() {
        promise(8);
        ScissorsTable table = told("t0:1,2,3/-4,5,6/7,8,-9/0,1,0");
        cornersAre(table, 0, 1, 2, 3, -4, 5, 6, 7, 8, -9, 0, 1, 0);
        for (int bad : new int[] {-1, 4, LEAST, GREATEST}) {
            due("corner(" + bad + ", 0, 0)", table.corner(bad, 0, 0), HIDDEN);
            due("corner(0, " + bad + ", 0)", table.corner(0, bad, 0), HIDDEN);
            due("corner(0, 0, " + bad + ")", table.corner(0, 0, bad), HIDDEN);
        }
        due("corner(1, 0, 0)", table.corner(1, 0, 0), HIDDEN);
        due("corner(0, 0, 3)", table.corner(0, 0, 3), HIDDEN);
    }

    private static void promise9() {
        promise(9);
        ScissorsTable table = told(RIGHT + ";" + EVEN_SIDED + ";" + BY_19 + ";t0:0,0,0/8,0,0/0,8,0/0,0,8");
        edgeIs(table, 0, 0, 1, 1, 0, 1, 6, 0);
        edgeIs(table, 0, 2, 1, 1, 0, 1, 6, 0);
        edgeIs(table, 0, 3, 1, 2, 1, 1, NONE, 1);
        edgeIs(table, 0, 5, 1, 2, 1, 1, NONE, 1);
        for (int edge = 0; edge < 6; edge++) {
            edgeIs(table, 1, edge, 1, 2, 1, 2, NONE, 1);
        }
        edgeIs(table, 2, 0, 2, 1, 0, 1, 6, 0);
        edgeIs(table, 2, 1, 3, 1, 0, 1, 6, 0);
        edgeIs(table, 2, 2, 5, 1, 0, 1, 6, 0);
        edgeIs(table, 2, 3, 1, 13, 6, 5, NONE, 1);
        edgeIs(table, 2, 4, 1, 29, 10, 3, NONE, 1);
        edgeIs(table, 2, 5, 1, 34, 15, 2, NONE, 1);
        edgeIs(table, 3, 3, 8, 2, 1, 1, NONE, 1);
        for (int bad : new int[] {-1, 6, LEAST, GREATEST}) {
            due("edge(" + bad + ", 0, 0)", table.edge(bad, 0, 0), HIDDEN);
            due("edge(0, " + bad + ", 0)", table.edge(0, bad, 0), HIDDEN);
            due("edge(0, 0, " + bad + ")", table.edge(0, 0, bad), HIDDEN);
        }
        due("edge(4, 0, 0)", table.edge(4, 0, 0), HIDDEN);
    }

    /** All the angles that are EVEN, and those of one A that is another M's. */
    private static void promise9Even() {
        promise(9);
        ScissorsTable table = told("t0:0,0,0/1,0,0/1,1,0/1,1,1;t0:0,0,0/2,0,0/2,1,0/2,2,2;t0:0,0,0/0,0,1/1,0,0/-1,1,0;"
                + "t0:0,0,0/1,1,1/1,0,0/0,1,0;t0:0,0,0/1,1,1/1,0,0/-1,1,0;t0:0,0,0/0,0,1/1,0,0/-3,1,0;t0:0,0,0/1,0,0/0,1,0/0,-1,2");
        edgeIs(table, 0, 0, 1, 1, 1, 1, 3, 0);
        edgeIs(table, 0, 2, 1, 3, 1, 1, 4, 0);
        edgeIs(table, 1, 2, 2, 3, 3, 1, 2, 0);
        edgeIs(table, 2, 0, 1, 1, -1, 1, 9, 0);
        edgeIs(table, 3, 0, 1, 3, -1, 1, 8, 0);
        edgeIs(table, 4, 0, 1, 3, -3, 1, 10, 0);
        edgeIs(table, 5, 0, 1, 1, -3, 1, NONE, 1);
        edgeIs(table, 6, 0, 1, 1, -1, 2, NONE, 1);
    }

    private static void primeIs(ScissorsTable table, int tet, int edge, int p, int e) {
        due("prime(" + tet + ", " + edge + ", 0, 0)", table.prime(tet, edge, 0, 0), p);
        due("prime(" + tet + ", " + edge + ", 0, 1)", table.prime(tet, edge, 0, 1), e);
        due("prime(" + tet + ", " + edge + ", 1, 0)", table.prime(tet, edge, 1, 0), HIDDEN);
    }

    private static void promise10() {
        promise(10);
        ScissorsTable table = told(RIGHT + ";" + EVEN_SIDED + ";" + BY_19 + ";t0:0,0,0/1,0,0/0,1,0/0,4,7;t0:0,0,0/1,0,0/0,1,0/0,-4,7");
        primeIs(table, 0, 3, 3, 1);
        primeIs(table, 1, 0, 3, -2);
        // 6 by 5 is 5 in rests by 19, 10 by 3 is 16, 15 by 2 is 17.
        primeIs(table, 2, 3, 19, 2);
        primeIs(table, 2, 4, 19, -2);
        primeIs(table, 2, 5, 19, -2);
        // 4 + 7i: 65 is 5 by 13; 4 by 7 is 2 in rests by 5, 8 by 13; -4 + 7i the other way round.
        due("how many", table.edge(3, 0, 5), 2);
        due("rising", table.prime(3, 0, 0, 0), 5);
        due("5", table.prime(3, 0, 0, 1), 1);
        due("rising", table.prime(3, 0, 1, 0), 13);
        due("13", table.prime(3, 0, 1, 1), -1);
        due("5 back", table.prime(4, 0, 0, 1), -1);
        due("13 back", table.prime(4, 0, 1, 1), 1);
        due("an EVEN one", table.prime(0, 0, 0, 0), HIDDEN);
        for (int bad : new int[] {-1, 6, LEAST, GREATEST}) {
            due("prime(" + bad + ", ..)", table.prime(bad, 3, 0, 0), HIDDEN);
            due("prime(0, " + bad + ", ..)", table.prime(0, bad, 0, 0), HIDDEN);
            due("prime(0, 3, " + bad + ", 0)", table.prime(0, 3, bad, 0), HIDDEN);
            due("prime(0, 3, 0, " + bad + ")", table.prime(0, 3, 0, bad), HIDDEN);
        }
        due("what 2", table.prime(0, 3, 0, 2), HIDDEN);
    }

    private static void promise11() {
        promise(11);
        ScissorsTable table = told("b3:0,0,0/2,3,4;" + BY_19 + ";" + RIGHT + ";" + EVEN_SIDED);
        due("SIX of the box", table.solid(3, 0), 6 * 24);
        due("TETS of the box", table.solid(3, 1), 6);
        due("terms of the box", table.solid(3, 3), 0);
        due("SIX of two", table.solid(0, 0), 31);
        due("TETS of two", table.solid(0, 1), 2);
        due("not EVEN of two", table.solid(0, 2), 6);
        due("terms of two", table.solid(0, 3), 4);
        due("not EVEN", table.solid(1, 2), 6);
        due("an empty one", table.solid(2, 0), 0);
        due("an empty one", table.solid(2, 1), 0);
        due("an empty one", table.solid(2, 2), 0);
        due("an empty one", table.solid(2, 3), 0);
        for (int bad : new int[] {-1, 4, LEAST, GREATEST}) {
            due("solid(" + bad + ", 0)", table.solid(bad, 0), NONE);
            due("solid(0, " + bad + ")", table.solid(0, bad), NONE);
        }
    }

    private static void promise12() {
        promise(12);
        ScissorsTable table = told(BY_19 + ";" + RIGHT + ";" + EVEN_SIDED + ";t2:0,0,0/4,0,0/0,6,0/0,0,9");
        termIs(table, 0, 0, 2, 3, 3);
        termIs(table, 0, 1, 13, 19, 2);
        termIs(table, 0, 2, 29, 19, -2);
        termIs(table, 0, 3, 34, 19, -2);
        termIs(table, 1, 0, 2, 3, -12);
        // 4, 6, 9: twice a root of 13 by 4 and 3, thrice one by 9 and 2: 133 is 7 by 19, in rests 6 and 14, 1 and 14.
        due("Q counts", table.much(2, 13, 7), -2 + 3);
        due("Q counts", table.much(2, 13, 19), -2 - 3);
        due("term(0, 4, 0)", table.term(0, 4, 0), HIDDEN);
        due("term(3, 0, 0)", table.term(3, 0, 0), HIDDEN);
        for (int bad : new int[] {-1, 4, LEAST, GREATEST}) {
            due("term(" + bad + ", 0, 0)", table.term(bad, 0, 0), HIDDEN);
            due("term(0, " + bad + ", 0)", table.term(0, bad, 0), HIDDEN);
            due("term(0, 0, " + bad + ")", table.term(0, 0, bad), HIDDEN);
        }
        due("term(0, 0, 3)", table.term(0, 0, 3), HIDDEN);
        ScissorsTable wide = told("t0:0,0,0/1,0,0/0,1,0/0,4,7;t0:0,0,0/2,0,0/0,1,0/0,-4,7");
        due("by M, then P", wide.term(0, 0, 0), 1);
        due("by M, then P", wide.term(0, 0, 1), 5);
        due("Q 1 and Q 2 the other way", wide.term(0, 0, 2), 1 - 2);
        due("by M, then P", wide.term(0, 1, 1), 13);
        due("Q 1 and Q 2 the other way", wide.term(0, 1, 2), -1 + 2);
        ScissorsTable nought = told("t0:0,0,0/1,0,0/0,1,0/0,4,7;t0:0,0,0/1,0,0/0,1,0/0,-4,7");
        due("0 is none", nought.much(0, 1, 5), 0);
        due("0 is none", nought.term(0, 0, 0) == 1 && nought.term(0, 0, 1) == 5, false);
    }

    private static void promise13() {
        promise(13);
        ScissorsTable table = told(BY_19 + ";" + RIGHT + ";" + EVEN_SIDED);
        due("much(0, 29, 19)", table.much(0, 29, 19), -2);
        due("much(0, 13, 19)", table.much(0, 13, 19), 2);
        due("much(1, 2, 3)", table.much(1, 2, 3), -12);
        due("much(1, 13, 19)", table.much(1, 13, 19), 0);
        due("much(2, 2, 3)", table.much(2, 2, 3), 0);
        due("much(0, 19, 13)", table.much(0, 19, 13), 0);
        due("much(0, -1, -1)", table.much(0, -1, -1), 0);
        due("much(0, least, greatest)", table.much(0, LEAST, GREATEST), 0);
        due("much(0, greatest, least)", table.much(0, GREATEST, LEAST), 0);
        for (int bad : new int[] {-1, 4, LEAST, GREATEST}) {
            due("much(" + bad + ", 2, 3)", table.much(bad, 2, 3), HIDDEN);
        }
    }

    private static void promise14() {
        promise(14);
        ScissorsTable table = told("b0:0,0,0/1,2,6;b1:-1,-1,-1/3,4,1;t2:0,0,0/6,0,0/0,6,0/0,0,2;t3:0,0,0/1,0,0/0,1,0/0,0,1");
        due("boxes", table.alike(0, 1), 0);
        due("boxes", table.alike(1, 0), 0);
        due("SUMS", table.alike(0, 2), 2);
        due("SUMS", table.alike(2, 0), 2);
        due("volumes", table.alike(0, 3), 1);
        due("volumes first", table.alike(2, 3), 1);
        due("one and the same", table.alike(2, 2), 0);
        due("both empty", new ScissorsTable().alike(0, 3), 0);
        for (int bad : new int[] {-1, 4, LEAST, GREATEST}) {
            due("alike(" + bad + ", 0)", table.alike(bad, 0), NONE);
            due("alike(0, " + bad + ")", table.alike(0, bad), NONE);
            due("alike of both", table.alike(bad, bad), NONE);
        }
        // Cut along an edge, half turned over, it is still the same.
        ScissorsTable hill = told("t0:0,0,0/1,0,0/1,1,0/1,1,1;b1:0,0,0/1,1,1");
        due("sixth of a cube", hill.solid(0, 3), 0);
        due("volumes", hill.alike(0, 1), 1);
        for (int k = 0; k < 5; k++) {
            hill.drop(1);
        }
        due("one of six", hill.alike(0, 1), 0);
    }

    private static void promise15() {
        promise(15);
        ScissorsTable table = told(RIGHT + ";" + EVEN_SIDED + ";t2:0,0,0/2,0,0/0,3,0/0,0,5;t3:0,0,0/2,0,0/0,5,0/0,0,3;t3:0,0,0/1,0,0/0,1,0/0,0,1");
        due("M", table.unlike(0, 1, 0), 2);
        due("P", table.unlike(0, 1, 1), 3);
        due("by how much", table.unlike(0, 1, 2), 15);
        due("by how much", table.unlike(1, 0, 2), -15);
        due("first M", table.unlike(2, 3, 0), 2);
        due("of the other alone", table.unlike(2, 3, 2), -3);
        due("first M behind those alike", table.unlike(3, 0, 0), 13);
        due("first P behind those alike", table.unlike(3, 0, 1), 19);
        due("by how much", table.unlike(3, 0, 2), 2);
        due("by how much", table.unlike(0, 3, 2), -2);
        due("none", table.unlike(2, 2, 0), HIDDEN);
        due("none", new ScissorsTable().unlike(0, 1, 2), HIDDEN);
        for (int bad : new int[] {-1, 4, LEAST, GREATEST}) {
            due("unlike(" + bad + ", 1, 0)", table.unlike(bad, 1, 0), HIDDEN);
            due("unlike(0, " + bad + ", 0)", table.unlike(0, bad, 0), HIDDEN);
            due("unlike(0, 1, " + bad + ")", table.unlike(0, 1, bad), HIDDEN);
        }
        due("unlike(0, 1, 3)", table.unlike(0, 1, 3), HIDDEN);
    }

    private static void promise16() {
        promise(16);
        ScissorsTable table = told(RIGHT + ";" + EVEN_SIDED + ";b2:0,0,0/9,9,9");
        due("lacks(0, 1)", table.lacks(0, 1), -1);
        due("lacks(1, 0)", table.lacks(1, 0), 1);
        due("lacks(2, 1)", table.lacks(2, 1), 6 * 729 - 2);
        due("lacks(3, 2)", table.lacks(3, 2), -6 * 729);
        due("lacks(2, 2)", table.lacks(2, 2), 0);
        for (int bad : new int[] {-1, 4, LEAST, GREATEST}) {
            due("lacks(" + bad + ", 0)", table.lacks(bad, 0), HIDDEN);
            due("lacks(0, " + bad + ")", table.lacks(0, bad), HIDDEN);
        }
    }

    private static void promise17() {
        promise(17);
        ScissorsTable table = told("t0:0,0,0/4,0,0/0,4,0/0,0,4;t0:0,0,0/0,4,0/4,0,0/0,0,4");
        for (int tet = 0; tet < 2; tet++) {
            due("CORNER", table.where(tet, 0, 0, 0), 1);
            due("CORNER", table.where(tet, 0, 0, 4), 1);
            due("EDGE", table.where(tet, 2, 2, 0), 2);
            due("EDGE", table.where(tet, 0, 0, 1), 2);
            due("face", table.where(tet, 1, 1, 0), 3);
            due("face", table.where(tet, 1, 1, 2), 3);
            due("within", table.where(tet, 1, 1, 1), 4);
            due("beyond", table.where(tet, 2, 2, 1), 0);
            due("beyond", table.where(tet, -1, 0, 0), 0);
            due("beyond on the line of an EDGE", table.where(tet, 5, 0, 0), 0);
        }
        due("far", table.where(0, 10, 0, 0), 0);
        for (int far : new int[] {1 << 28, 1 << 30, LEAST, GREATEST}) {
            due("far by X", table.where(0, far, 0, 0), 0);
            due("far by Y", table.where(0, 0, far, 0), 0);
            due("far by Z", table.where(0, 0, 0, far), 0);
        }
        due("far", table.where(0, LEAST, GREATEST, 1), 0);
        due("far", table.where(0, 1 << 30, 1 << 30, 1 << 31), 0);
        for (int bad : new int[] {-1, 2, LEAST, GREATEST}) {
            due("where(" + bad + ", ..)", table.where(bad, 0, 0, 0), NONE);
        }
    }

    private static void promise18() {
        promise(18);
        ScissorsTable table = told("t0:0,0,0/4,0,0/0,4,0/0,0,4;" + EVEN_SIDED);
        due("within", table.cut(0, 1, 1, 1), 4);
        due("count(0)", table.count(0), 5);
        cornersAre(table, 0, 1, 1, 1, 4, 0, 0, 0, 4, 0, 0, 0, 4);
        cornersAre(table, 1, 0, 0, 0, 1, 1, 0, 1, 0, 1, 0, 1, 1);
        cornersAre(table, 2, 0, 0, 0, 1, 1, 1, 0, 4, 0, 0, 0, 4);
        cornersAre(table, 3, 0, 0, 0, 4, 0, 0, 1, 1, 1, 0, 0, 4);
        cornersAre(table, 4, 0, 0, 0, 4, 0, 0, 0, 4, 0, 1, 1, 1);
        due("SIX", table.tet(0, 1), 16);
        due("SIX", table.tet(2, 1), 16);
        due("of its SOLID", table.tet(4, 0), 0);
        due("volume", table.solid(0, 0), 64);
        due("the SUM stays", table.much(0, 2, 3), 12);
        due("the SUM stays", table.solid(0, 3), 1);
        ScissorsTable face = told("t2:0,0,0/4,0,0/0,4,0/0,0,4;" + RIGHT);
        due("on a face", face.cut(0, 1, 1, 0), 3);
        cornersAre(face, 0, 1, 1, 0, 4, 0, 0, 0, 4, 0, 0, 0, 4);
        cornersAre(face, 1, 0, 0, 0, 1, 0, 0, 0, 1, 0, 0, 0, 1);
        cornersAre(face, 2, 0, 0, 0, 1, 1, 0, 0, 4, 0, 0, 0, 4);
        cornersAre(face, 3, 0, 0, 0, 4, 0, 0, 1, 1, 0, 0, 0, 4);
        due("the SUM stays", face.much(2, 2, 3), 12);
        due("the SUM stays", face.solid(2, 3), 1);
        ScissorsTable edge = told("t2:0,0,0/4,0,0/0,4,0/0,0,4");
        due("on an EDGE", edge.cut(0, 0, 3, 1), 2);
        cornersAre(edge, 0, 0, 0, 0, 4, 0, 0, 0, 3, 1, 0, 0, 4);
        cornersAre(edge, 1, 0, 0, 0, 4, 0, 0, 0, 4, 0, 0, 3, 1);
        due("SIX", edge.tet(0, 1), 48);
        due("SIX", edge.tet(1, 1), 16);
        due("the SUM stays", edge.much(2, 2, 3), 12);
    }

    private static void promise18Edges() {
        promise(18);
        ScissorsTable table = told("t0:0,0,0/4,0,0/0,4,0/0,0,4;" + "b1:0,0,0/1,1,1;".repeat(6) + "b1:0,0,0/1,1,1;t1:0,0,0/4,0,0/0,4,0/0,0,4");
        due("TETS", table.count(0), 44);
        for (int bad : new int[] {-1, 44, LEAST, GREATEST}) {
            due("no such one", table.cut(bad, 99, 0, 0), -1);
        }
        due("the point X", table.cut(0, 10, 0, 0), -2);
        due("the point Y", table.cut(0, 0, -10, 0), -2);
        due("the point Z", table.cut(0, 0, 0, GREATEST), -2);
        due("beyond", table.cut(0, 2, 2, 1), -3);
        due("at a CORNER", table.cut(0, 4, 0, 0), -3);
        due("nothing changed", table.count(0), 44);
        due("four of it", table.cut(0, 1, 1, 1), 4);
        due("47", table.count(0), 47);
        table.pick(0, 0);
        due("too many", table.cut(43, 1, 1, 1), -4);
        due("too many", table.cut(43, 1, 1, 0), -4);
        due("beyond comes first", table.cut(43, 2, 2, 1), -3);
        due("PICKED stay", table.count(2), 1);
        due("nothing changed", table.tet(43, 1), 64);
        due("two of it", table.cut(43, 0, 0, 1), 2);
        due("48", table.count(0), 48);
        due("too many", table.cut(43, 0, 0, 2), -4);
        due("PICKED are gone", table.count(2), 0);
    }

    private static void promise19() {
        promise(19);
        String two = "t0:1,0,0/0,2,0/0,0,0/0,0,3;t2:0,0,0/1,0,0/0,1,0/0,0,1;t0:0,2,0/-2,0,0/0,0,3/0,0,0;t3:0,0,0/1,0,0/0,1,0/0,0,1";
        ScissorsTable table = told(two);
        table.pick(1, 1);
        due("JOINED", table.join(2, 0), 0);
        due("one less", table.count(0), 3);
        cornersAre(table, 0, 1, 0, 0, 0, 2, 0, -2, 0, 0, 0, 0, 3);
        due("SIX", table.tet(0, 1), 18);
        due("those behind come up", table.tet(2, 0), 3);
        due("those ahead stay", table.tet(1, 0), 2);
        due("PICKED are gone", table.count(2), 0);
        ScissorsTable other = told(two);
        due("JOINED the other way", other.join(0, 2), 0);
        cornersAre(other, 0, 1, 0, 0, 0, 2, 0, -2, 0, 0, 0, 0, 3);
        ScissorsTable again = told("t0:0,0,0/4,0,0/0,4,0/0,0,4");
        again.cut(0, 0, 3, 1);
        due("put together again", again.join(0, 1), 0);
        cornersAre(again, 0, 0, 0, 0, 4, 0, 0, 0, 4, 0, 0, 0, 4);
        due("the SUM", again.much(0, 2, 3), 12);
        due("the SUM", again.solid(0, 3), 1);
        due("SIX", again.solid(0, 0), 64);
    }

    /** The one that goes lies between the others by each axis, and aslant. */
    private static void promise19Axes() {
        promise(19);
        int[][] ways = {{1, 0, 0}, {0, 1, 0}, {0, 0, 1}, {1, 1, 0}, {1, -1, 0}, {0, 1, -1}, {-1, 0, 1}, {1, 2, 3}, {-1, -1, -1}, {2, -1, 0}};
        for (int[] way : ways) {
            for (int times = -2; times <= 2; times++) {
                String rest = "/3,2,1/" + (way[0] == 2 ? "1,0,3" : "2,-1,0") + "/0,0,0";
                ScissorsTable table = told("t0:" + way[0] + "," + way[1] + "," + way[2] + rest + ";t0:"
                        + times * way[0] + "," + times * way[1] + "," + times * way[2] + rest);
                if (times == 0 || table.count(0) < 2) {
                    continue;
                }
                int six = table.solid(0, 0);
                due("join by " + way[0] + "," + way[1] + "," + way[2] + " times " + times, table.join(0, 1), times < 0 ? 0 : -3);
                due("volume", table.solid(0, 0), six);
                due("corner(0, 0, 0)", table.corner(0, 0, 0), way[0]);
                due("corner(0, 3, 2)", table.corner(0, 3, 2), times < 0 ? times * way[2] : 0);
            }
        }
    }

    private static void promise19Refused() {
        promise(19);
        String first = "t0:1,0,0/0,2,0/0,0,0/0,0,3;";
        ScissorsTable table = told(first + "t1:0,2,0/-2,0,0/0,0,3/0,0,0;t0:0,2,0/-2,1,0/0,0,3/0,0,0;t0:1,0,0/0,2,0/0,0,0/0,0,3;"
                + "t0:2,0,0/0,2,0/0,0,0/0,0,3;t0:-2,0,0/0,3,0/0,0,0/0,0,3;t0:5,5,5/6,5,5/5,6,5/5,5,6");
        table.pick(0, 0);
        due("one and the same", table.join(0, 0), -3);
        due("of unlike SOLIDS", table.join(0, 1), -3);
        due("three alike, none between", table.join(0, 2), -3);
        due("all four alike", table.join(0, 3), -3);
        due("in line, not between", table.join(0, 4), -3);
        due("two alike", table.join(0, 5), -3);
        due("none alike", table.join(6, 0), -3);
        for (int bad : new int[] {-1, 7, LEAST, GREATEST}) {
            due("join(" + bad + ", 0)", table.join(bad, 0), -1);
            due("join(0, " + bad + ")", table.join(0, bad), -1);
            due("join of both", table.join(bad, bad), -1);
        }
        due("nothing changed", table.count(0), 7);
        due("PICKED stay", table.count(2), 1);
        table.give(1, 0);
        due("now of one SOLID", table.join(1, 0), 0);
    }

    private static void promise20() {
        promise(20);
        String text = "t0:1,2,3/2,2,3/1,5,3/1,2,7";
        int[][] first = {{1, 2, 3}, {1, 3, 2}, {2, 1, 3}, {2, 3, 1}, {3, 1, 2}, {3, 2, 1}};
        for (int by = 1; by < 48; by++) {
            ScissorsTable table = told(text);
            int others = table.turn(0, by);
            int changed = 0;
            int[] old = {1, 2, 3, 2, 2, 3, 1, 5, 3, 1, 2, 7};
            for (int k = 0; k < 12; k++) {
                changed += table.corner(0, k / 3, k % 3) != old[k] ? 1 : 0;
            }
            due("turn(0, " + by + ")", others, changed);
            for (int axis = 0; axis < 3; axis++) {
                int sign = (by >> axis & 1) == 1 ? -1 : 1;
                due("turn(0, " + by + ") axis " + axis, table.corner(0, 0, axis), sign * first[by / 8][axis]);
            }
            due("SIX stays", table.tet(0, 1), 12);
            due("SIX stays", table.solid(0, 0), 12);
        }
        ScissorsTable table = told(BY_19 + ";t1:0,0,0/1,1,0/1,0,1/0,1,1;t1:0,0,0/1,0,0/0,1,0/0,0,1");
        table.pick(0, 3);
        due("none would be", table.turn(0, 0), -3);
        due("48", table.turn(0, 48), -2);
        due("-1", table.turn(0, -1), -2);
        due("least", table.turn(0, LEAST), -2);
        due("no such one", table.turn(3, 1), -1);
        due("no such one comes first", table.turn(-1, 48), -1);
        due("PICKED stay", table.count(2), 1);
        due("one number", table.turn(0, 1), 1);
        due("PICKED are gone", table.count(2), 0);
        cornersAre(table, 0, 0, 0, 0, -2, 0, 0, 0, 3, 0, 0, 0, 5);
        due("YZX", table.turn(0, 24), 6);
        cornersAre(table, 0, 0, 0, 0, 0, 0, -2, 3, 0, 0, 0, 5, 0);
        due("the SUM stays", table.much(0, 34, 19), -2);
        due("X and Y of one", table.turn(2, 16), 4);
    }

    private static void promise21() {
        promise(21);
        ScissorsTable table = told(BY_19);
        table.pick(0, 3);
        due("all are 0", table.move(0, 0, 0, 0), -3);
        due("beyond X", table.move(0, 8, 0, 0), -2);
        due("beyond Y", table.move(0, 0, -10, 0), -2);
        due("beyond Z", table.move(0, 0, 0, 5), -2);
        due("19", table.move(0, 19, 0, 0), -2);
        due("greatest", table.move(0, GREATEST, 0, 0), -2);
        due("least", table.move(0, 0, LEAST, LEAST), -2);
        due("no such one", table.move(1, 0, 0, 0), -1);
        due("no such one", table.move(-1, 99, 0, 0), -1);
        due("PICKED stay", table.count(2), 1);
        due("MOVED", table.move(0, 7, -9, 4), 30);
        due("PICKED are gone", table.count(2), 0);
        cornersAre(table, 0, 7, -9, 4, 9, -9, 4, 7, -6, 4, 7, -9, 9);
        due("the SUM stays", table.much(0, 34, 19), -2);
        due("all the way back", table.move(0, -16, 0, 0), 30);
        due("X", table.corner(0, 0, 0), -9);
        ScissorsTable far = told("t0:-9,0,0/-9,1,0/-9,0,1/-8,0,0");
        due("17", far.move(0, 17, 0, 0), 1);
        due("-18", far.move(0, -18, 0, 0), -2);
        due("all three", far.move(0, -17, -9, 8), 1);
        cornersAre(far, 0, -9, -9, 8, -9, -8, 8, -9, -9, 9, -8, -9, 8);
    }

    private static void promise22() {
        promise(22);
        ScissorsTable table = told(RIGHT + ";" + EVEN_SIDED);
        table.pick(0, 3);
        due("it is", table.give(0, 0), -3);
        due("no such SOLID", table.give(0, 4), -1);
        due("no such SOLID", table.give(0, -1), -1);
        due("no such TET", table.give(2, 0), -1);
        due("no such TET", table.give(-1, 0), -1);
        due("PICKED stay", table.count(2), 1);
        due("GIVEN", table.give(0, 1), 0);
        due("PICKED are gone", table.count(2), 0);
        due("its SOLID", table.tet(0, 0), 1);
        due("SIX", table.solid(1, 0), 3);
        due("SUM", table.much(1, 2, 3), -9);
        due("SUM of the old one", table.solid(0, 3), 0);
        due("GIVEN on", table.give(1, 3), 1);
        due("SUM", table.much(1, 2, 3), 3);
        due("SUM", table.much(3, 2, 3), -12);
    }

    private static void promise23() {
        promise(23);
        ScissorsTable table = told(RIGHT + ";" + EVEN_SIDED + ";" + BY_19);
        table.pick(0, 3);
        for (int bad : new int[] {-1, 3, LEAST, GREATEST}) {
            due("drop(" + bad + ")", table.drop(bad), -1);
        }
        due("PICKED stay", table.count(2), 1);
        due("DROPPED", table.drop(1), 2);
        due("PICKED are gone", table.count(2), 0);
        due("those behind come up", table.tet(1, 1), 30);
        due("its SUM is gone", table.solid(1, 3), 0);
        due("the others stay", table.solid(0, 3), 4);
        due("DROPPED", table.drop(0), 1);
        cornersAre(table, 0, 0, 0, 0, 2, 0, 0, 0, 3, 0, 0, 0, 5);
        due("DROPPED", table.drop(0), 0);
        due("none left", table.drop(0), -1);
        due("no SUM left", table.solid(0, 3), 0);
    }

    private static void promise24() {
        promise(24);
        ScissorsTable table = told(RIGHT + ";t0:0,0,0/4,0,0/0,4,0/0,0,4;t0:4,0,0/0,0,0/0,4,0/0,0,4;t0:-9,-9,-9/9,-9,-9/-9,9,-9/-9,-9,9;t0:0,0,0/1,0,0/0,1,0/1,1,9;"
                + "t0:0,0,0/0,0,9/1,0,0/0,1,0");
        due("CORNERS", table.points(0), 4);
        due("4 * 5 * 6 * 7 ..", table.points(1), 35);
        due("turned", table.points(2), 35);
        due("the greatest", table.points(3), 19 * 20 * 21 / 6);
        due("none but CORNERS", table.points(4), 4);
        due("on an edge", table.points(5), 12);
        due("no such one", table.points(6), NONE);
        due("no such one", table.points(-1), NONE);
        due("no such one", table.points(GREATEST), NONE);
    }

    private static void promise25() {
        promise(25);
        ScissorsTable table = told("t0:0,0,0/4,0,0/0,4,0/0,0,4;t0:0,0,0/2,0,0/0,2,0/0,0,2;t0:0,0,0/3,0,0/0,3,0/0,0,3;" + RIGHT + ";t0:0,0,0/-3,0,0/0,1,0/0,0,1");
        fairestIs(table, 0, 1, 1, 1, 16);
        // All six middles of edges are as fair: X 0, then Y 0.
        fairestIs(table, 1, 0, 0, 1, 4);
        // The middles of the faces, SIX 9 each: lowest X, then Y.
        fairestIs(table, 2, 0, 1, 1, 9);
        fairestIs(table, 3, HIDDEN, HIDDEN, HIDDEN, HIDDEN);
        fairestIs(table, 4, -2, 0, 0, 2);
        for (int bad : new int[] {-1, 4, LEAST, GREATEST}) {
            due("fairest(0, " + bad + ")", table.fairest(0, bad), HIDDEN);
        }
        due("no such one", table.fairest(5, 0), HIDDEN);
        due("no such one", table.fairest(-1, 0), HIDDEN);
    }

    private static void promise26() {
        promise(26);
        ScissorsTable table = told("t0:0,0,0/2,0,0/0,2,0/0,0,2;" + RIGHT + ";t0:0,0,0/0,0,9/1,0,0/0,1,0;t0:-9,-9,-9/9,-9,-9/-9,9,-9/-9,-9,9");
        due("none", table.cutsTo(0, 8), 0);
        due("none", table.cutsTo(0, GREATEST), 0);
        due("one", table.cutsTo(0, 7), 1);
        due("one", table.cutsTo(0, 4), 1);
        due("both halves", table.cutsTo(0, 3), 3);
        due("both halves", table.cutsTo(0, 2), 3);
        due("below 1", table.cutsTo(0, 0), NONE);
        due("below 1", table.cutsTo(0, -1), NONE);
        due("below 1", table.cutsTo(0, LEAST), NONE);
        due("can't be CUT, need not", table.cutsTo(1, 1), 0);
        // 9 is 4 and 5; 2 and 2, 2 and 3; and on to 1: eight CUTS of one line of nine.
        due("in line", table.cutsTo(2, 1), 8);
        due("in line", table.cutsTo(2, 2), 4);
        due("in line", table.cutsTo(2, 3), 3);
        due("in line", table.cutsTo(2, 5), 1);
        due("more than 40", table.cutsTo(3, 1), NONE);
        due("a few", table.cutsTo(3, 18 * 18 * 18 - 1), 1);
        due("no such one", table.cutsTo(4, 1), NONE);
        due("no such one", table.cutsTo(-1, 1), NONE);
        due("nothing is changed", table.count(0), 4);
        due("40 and no more", told("t0:0,9,1/-5,3,8/-1,-5,3/3,5,5").cutsTo(0, 11), 40);
        due("40 and no more", told("t0:6,-6,8/-8,-5,4/-2,-6,8/5,-6,-9").cutsTo(0, 3), 40);
        due("41", told("t0:6,3,-9/2,-7,-4/-5,-8,-9/0,4,-1").cutsTo(0, 19), NONE);
        due("42", told("t0:-3,-4,8/9,-1,-4/4,-7,-6/-4,8,0").cutsTo(0, 29), NONE);
        ScissorsTable stuck = told("t0:0,0,0/1,0,0/0,1,0/1,1,9");
        due("can't be CUT", stuck.cutsTo(0, 8), NONE);
        due("need not", stuck.cutsTo(0, 9), 0);
    }

    private static void promise27() {
        promise(27);
        ScissorsTable table = told(RIGHT);
        for (int k = 1; k <= 6; k++) {
            due("pick", table.pick(0, 6 - k), k);
        }
        due("six are", table.pick(0, 0), -3);
        due("no such one comes first", table.pick(1, 0), -1);
        due("no such EDGE", table.pick(0, 6), -1);
        due("count(2)", table.count(2), 6);
        table.unpick();
        due("no such TET", table.pick(-1, 0), -1);
        due("no such EDGE", table.pick(0, -1), -1);
        due("twice", table.pick(0, 3) + table.pick(0, 3), 3);
    }

    private static void promise28() {
        promise(28);
        ScissorsTable table = told("t0:0,0,0/4,0,0/0,4,0/0,0,4");
        due("none were", table.unpick(), 0);
        table.pick(0, 0);
        table.pick(0, 3);
        due("two were", table.unpick(), 2);
        due("none", table.count(2), 0);
        due("none were", table.unpick(), 0);
        table.pick(0, 0);
        table.cut(0, 0, 0, 2);
        due("behind cut", table.unpick(), 0);
        table.pick(0, 0);
        table.join(0, 1);
        due("behind join", table.unpick(), 0);
        table.pick(0, 0);
        table.turn(0, 1);
        due("behind turn", table.unpick(), 0);
        table.pick(0, 0);
        table.give(0, 1);
        due("behind give", table.unpick(), 0);
        table.pick(0, 0);
        table.move(0, 1, 1, 1);
        due("behind move", table.unpick(), 0);
        table.pick(0, 0);
        write(table, RIGHT + ";" + EVEN_SIDED);
        table.text();
        due("behind text", table.unpick(), 0);
        table.pick(0, 0);
        table.drop(1);
        due("behind drop", table.unpick(), 0);
        table.pick(0, 0);
        table.drop(1);
        table.cut(0, 0, 0, 0);
        table.turn(0, 0);
        table.plan(1, 1, 1, 1, 1, 1);
        table.cutsTo(0, 1);
        due("not behind what is refused", table.unpick(), 1);
    }

    private static void promise29() {
        promise(29);
        ScissorsTable table = told(RIGHT + ";" + EVEN_SIDED + ";t2:0,0,0/2,0,0/0,3,0/0,0,5");
        due("nothing", table.rank(), 0);
        table.pick(0, 0);
        due("an EVEN one", table.rank(), 0);
        table.pick(0, 3);
        due("one", table.rank(), 1);
        table.pick(1, 0);
        due("of the same prime", table.rank(), 1);
        table.pick(2, 3);
        due("of another M", table.rank(), 2);
        table.pick(2, 4);
        due("of a third M, the same P", table.rank(), 3);
        table.pick(2, 5);
        due("and a fourth", table.rank(), 4);
    }

    private static void promise30() {
        promise(30);
        ScissorsTable table = told(RIGHT + ";" + EVEN_SIDED + ";t2:0,0,0/2,0,0/0,3,0/0,0,5");
        due("nothing", table.relation(0), HIDDEN);
        table.pick(1, 3);
        due("none", table.relation(0), HIDDEN);
        table.pick(2, 3);
        due("none", table.relation(1), HIDDEN);
        table.pick(0, 4);
        // -2 and twice 1.
        due("first", table.relation(0), 1);
        due("between", table.relation(1), 0);
        due("own above 0", table.relation(2), 2);
        table.pick(0, 0);
        due("the first that hangs together", table.relation(2), 2);
        due("0 behind it", table.relation(3), 0);
        due("no such one", table.relation(4), HIDDEN);
        due("no such one", table.relation(-1), HIDDEN);
        due("no such one", table.relation(LEAST), HIDDEN);
        due("no such one", table.relation(GREATEST), HIDDEN);
        table.unpick();
        table.pick(0, 1);
        due("an EVEN one hangs alone", table.relation(0), 1);
        // 5 and 13, 1 - 2 i and so on: three of two primes.
        ScissorsTable three = told("t0:0,0,0/1,0,0/0,1,0/0,4,7;t0:0,0,0/1,0,0/0,1,0/0,2,1;t0:0,0,0/1,0,0/0,1,0/0,3,2");
        three.pick(1, 0);
        three.pick(2, 0);
        three.pick(0, 0);
        due("RANK", three.rank(), 2);
        // 4 + 7i: 5 once, 13 once back; 2 + i: 2 by 1 is 2 in rests by 5: once; 3 + 2i: 3 by 2 is 8 in rests by 13: once back.
        due("2 + i", three.relation(0), -1);
        due("3 + 2i", three.relation(1), -1);
        due("4 + 7i", three.relation(2), 1);
    }

    private static void promise31() {
        promise(31);
        ScissorsTable table = told(RIGHT + ";" + EVEN_SIDED + ";t2:0,0,0/2,0,0/0,3,0/0,0,5;b3:0,0,0/1,1,1");
        int[] want = {0, 1, 1, 1, 1, 2, 2, 2, 0, 1, 1, 1, 1, 2, 2, 2};
        for (int solids = 0; solids < 16; solids++) {
            due("rankOf(" + solids + ")", table.rankOf(solids), want[solids]);
        }
        for (int bad : new int[] {-1, 16, LEAST, GREATEST}) {
            due("rankOf(" + bad + ")", table.rankOf(bad), NONE);
        }
        due("of none", new ScissorsTable().rankOf(15), 0);
    }

    private static void promise32() {
        promise(32);
        ScissorsTable table = told(RIGHT + ";" + EVEN_SIDED + ";t2:0,0,0/2,0,0/0,3,0/0,0,5;t3:0,0,0/3,0,0/0,3,0/0,0,3");
        // SUMS by (2, 3): 3, -12, none, 9.
        due("3 and -12", table.relationOf(3, 0), 4);
        due("3 and -12", table.relationOf(3, 1), 1);
        due("not of these", table.relationOf(3, 2), 0);
        due("3 and 9", table.relationOf(9, 0), -3);
        due("3 and 9", table.relationOf(9, 3), 1);
        due("-12 and 9", table.relationOf(10, 1), 3);
        due("-12 and 9", table.relationOf(10, 3), 4);
        due("another between", table.relationOf(14, 2), 0);
        due("another between", table.relationOf(14, 3), 4);
        due("0 for those behind", table.relationOf(15, 3), 0);
        due("the first", table.relationOf(15, 1), 1);
        due("there is none", table.relationOf(5, 0), HIDDEN);
        due("there is none", table.relationOf(4, 1), HIDDEN);
        due("of none", table.relationOf(0, 0), HIDDEN);
        for (int bad : new int[] {-1, 16, LEAST, GREATEST}) {
            due("relationOf(" + bad + ", 0)", table.relationOf(bad, 0), HIDDEN);
            due("relationOf(3, " + bad + ")", table.relationOf(3, bad), HIDDEN);
        }
        due("no such SOLID", table.relationOf(3, 4), HIDDEN);
        due("an empty SUM hangs alone", new ScissorsTable().relationOf(8, 3), 1);
        due("the first empty one", new ScissorsTable().relationOf(12, 2), 1);
        due("behind it", new ScissorsTable().relationOf(12, 3), 0);
    }

    private static void promise33() {
        promise(33);
        ScissorsTable table = told("t0:0,0,0/2,0,0/0,2,0/0,0,2;" + EVEN_SIDED + ";t2:0,0,0/3,0,0/0,3,0/0,0,3");
        // SUMS by (2, 3): 6, -12, 9.
        due("of the first", table.multiples(0, 2, 0), 3);
        due("of the other", table.multiples(0, 2, 1), 2);
        due("volumes", table.multiples(0, 2, 2), 3 * 8 - 2 * 27);
        due("of the first", table.multiples(2, 0, 0), 2);
        due("volumes", table.multiples(2, 0, 2), 2 * 27 - 3 * 8);
        due("one and the same", table.multiples(1, 1, 0), 1);
        due("one and the same", table.multiples(1, 1, 2), 0);
        due("of other signs", table.multiples(0, 1, 0), HIDDEN);
        due("a SUM is 0", table.multiples(0, 3, 0), HIDDEN);
        due("a SUM is 0", table.multiples(3, 0, 0), HIDDEN);
        due("both are 0", table.multiples(3, 3, 2), HIDDEN);
        for (int bad : new int[] {-1, 4, LEAST, GREATEST}) {
            due("multiples(" + bad + ", 0, 0)", table.multiples(bad, 0, 0), HIDDEN);
            due("multiples(0, " + bad + ", 0)", table.multiples(0, bad, 0), HIDDEN);
            due("multiples(0, 2, " + bad + ")", table.multiples(0, 2, bad), HIDDEN);
        }
        due("multiples(0, 2, 3)", table.multiples(0, 2, 3), HIDDEN);
        ScissorsTable parts = told(BY_19 + ";t0:0,0,0/1,0,0/0,1,0/0,0,1;t1:0,0,0/1,0,0/0,1,0/0,0,1;t2:0,0,0/2,0,0/0,3,0/0,0,5;t3:0,0,0/1,0,0/0,1,0/0,0,1;t3:0,0,0/2,0,0/0,3,0/0,0,5");
        due("the other lacks some", parts.multiples(0, 1, 0), HIDDEN);
        due("the first lacks some", parts.multiples(1, 0, 0), HIDDEN);
        due("the first lacks the first", parts.multiples(2, 0, 0), HIDDEN);
        due("all alike", parts.multiples(0, 3, 0), 1);
    }

    private static void promise34() {
        promise(34);
        ScissorsTable table = new ScissorsTable();
        due("the sides are so", table.plan(4, 5, 6, 4, 5, 6), 0);
        due("one", table.plan(2, 2, 2, 1, 4, 2), 1);
        due("one", table.plan(12, 12, 12, 9, 16, 12), 1);
        due("a cube of 12", table.plan(12, 12, 12, 24, 6, 12), 1);
        due("two", table.plan(4, 2, 1, 1, 8, 1), 2);
        for (int k = 0; k < 6; k++) {
            for (int bad : new int[] {0, -1, 25, LEAST, GREATEST}) {
                int[] s = {1, 1, 1, 1, 1, 1};
                s[k] = bad;
                due("a side " + bad, table.plan(s[0], s[1], s[2], s[3], s[4], s[5]), -2);
            }
        }
        due("more than 1,728", table.plan(24, 24, 4, 24, 24, 4), -2);
        due("more than 1,728 comes first", table.plan(24, 24, 4, 24, 24, 3), -2);
        due("only the other is more", table.plan(24, 24, 3, 24, 24, 4), -3);
        due("1,728", table.plan(24, 24, 3, 24, 24, 3), 0);
        due("1,729", table.plan(7, 13, 19, 7, 13, 19), -2);
        due("volumes", table.plan(2, 2, 2, 2, 2, 3), -3);
        due("there is none", table.plan(1, 1, 7, 7, 1, 1), NONE);
        due("the PLAN stays", table.count(3), 0);
        due("the PLAN stays", table.side(0, 2), 3);
        // 1 by 24 by 1 can't reach 1 by 1 by 24 in one: 24 by 1 through 2.
        due("24 at most", table.plan(1, 24, 2, 1, 24, 2), 0);
        due("24 at most", table.plan(24, 1, 1, 1, 24, 1) > 1, true);
    }

    private static void promise35() {
        promise(35);
        ScissorsTable table = new ScissorsTable();
        due("no PLAN", table.step(0, 0), HIDDEN);
        table.plan(12, 12, 12, 9, 16, 12);
        stepIs(table, 0, 0, 1, 4);
        table.plan(1, 24, 23, 1, 23, 24);
        stepIs(table, 0, 1, 2, 24);
        table.plan(2, 1, 2, 1, 4, 1);
        due("two", table.count(3), 2);
        // First that of X: I 0 is ahead of I 2.
        stepIs(table, 0, 0, 1, 2);
        stepIs(table, 1, 2, 1, 2);
        table.plan(4, 1, 3, 1, 4, 3);
        stepIs(table, 0, 0, 1, 2);
        stepIs(table, 1, 0, 1, 2);
        due("no such one", table.step(2, 0), HIDDEN);
        for (int bad : new int[] {-1, 3, LEAST, GREATEST}) {
            due("step(" + bad + ", 0)", table.step(bad, 0), HIDDEN);
            due("step(0, " + bad + ")", table.step(0, bad), HIDDEN);
        }
        table.plan(3, 3, 3, 3, 3, 3);
        due("no STEPS", table.step(0, 0), HIDDEN);
    }

    private static void promise36() {
        promise(36);
        ScissorsTable table = new ScissorsTable();
        due("no PLAN", table.side(0, 0), HIDDEN);
        table.plan(2, 1, 2, 1, 4, 1);
        int[] want = {2, 1, 2, 1, 2, 2, 1, 4, 1};
        for (int k = 0; k < 9; k++) {
            due("side(" + k / 3 + ", " + k % 3 + ")", table.side(k / 3, k % 3), want[k]);
        }
        for (int bad : new int[] {-1, 3, LEAST, GREATEST}) {
            due("side(" + bad + ", 0)", table.side(bad, 0), HIDDEN);
            due("side(0, " + bad + ")", table.side(0, bad), HIDDEN);
        }
        table.plan(5, 6, 7, 5, 6, 7);
        due("no STEPS", table.side(0, 2), 7);
        due("no STEPS", table.side(1, 2), HIDDEN);
    }

    private static void promise37() {
        promise(37);
        ScissorsTable table = new ScissorsTable();
        due("no PLAN", table.cube(0, 0, 0, 0, 0), HIDDEN);
        table.plan(3, 4, 2, 2, 6, 2);
        stepIs(table, 0, 0, 1, 3);
        // Parts of 1 by X, of 2 by Y: those of K and L together 2 or more go 1 back and 2 on.
        for (int x = 0; x < 3; x++) {
            for (int y = 0; y < 4; y++) {
                boolean goes = x + y / 2 >= 2;
                due("X of " + x + ", " + y, table.cube(x, y, 1, 1, 0), goes ? x - 1 : x);
                due("Y of " + x + ", " + y, table.cube(x, y, 1, 1, 1), goes ? y + 2 : y);
                due("Z of " + x + ", " + y, table.cube(x, y, 1, 1, 2), 1);
                due("ahead of all", table.cube(x, y, 1, 0, 1), y);
            }
        }
        due("no such CUBE", table.cube(3, 0, 0, 1, 0), HIDDEN);
        due("no such CUBE", table.cube(0, 4, 0, 1, 0), HIDDEN);
        due("no such CUBE", table.cube(0, 0, 2, 1, 0), HIDDEN);
        due("no such STEP", table.cube(0, 0, 0, 2, 0), HIDDEN);
        due("no such axis", table.cube(0, 0, 0, 0, 3), HIDDEN);
        for (int bad : new int[] {-1, LEAST, GREATEST}) {
            due("no such CUBE", table.cube(bad, 0, 0, 1, 0), HIDDEN);
            due("no such CUBE", table.cube(0, bad, 0, 1, 0), HIDDEN);
            due("no such CUBE", table.cube(0, 0, bad, 1, 0), HIDDEN);
            due("no such STEP", table.cube(0, 0, 0, bad, 0), HIDDEN);
            due("no such axis", table.cube(0, 0, 0, 0, bad), HIDDEN);
        }
        table.plan(2, 1, 2, 1, 4, 1);
        due("two STEPS", table.cube(1, 0, 1, 2, 1), 3);
        due("two STEPS", table.cube(0, 0, 1, 2, 1), 2);
        due("two STEPS", table.cube(1, 0, 0, 2, 1), 1);
        due("two STEPS", table.cube(1, 0, 1, 2, 2), 0);
        due("one STEP", table.cube(1, 0, 1, 1, 2), 1);
    }

    private static void promise38() {
        promise(38);
        ScissorsTable table = new ScissorsTable();
        due("no PLAN", table.pieces(0), HIDDEN);
        table.plan(2, 1, 2, 1, 4, 1);
        due("ahead of all", table.pieces(0), 1);
        due("one STEP", table.pieces(1), 2);
        due("two STEPS", table.pieces(2), 4);
        due("behind all", table.pieces(3), HIDDEN);
        due("no such one", table.pieces(-1), HIDDEN);
        due("no such one", table.pieces(LEAST), HIDDEN);
        due("no such one", table.pieces(GREATEST), HIDDEN);
        table.plan(24, 1, 1, 24, 1, 1);
        due("no STEPS", table.pieces(0), 1);
        due("no STEPS", table.pieces(1), HIDDEN);
        // As far as can be: 24 places by one axis are 24 ways.
        for (int k = 0; k < 9; k++) {
            int[] from = {1, 1, 1};
            int[] to = {1, 1, 1};
            from[k / 3] = 24;
            to[k % 3] = 24;
            int steps = table.plan(from[0], from[1], from[2], to[0], to[1], to[2]);
            due("24 places", table.pieces(steps), k % 4 == 0 ? 1 : 24);
        }
        table.plan(4, 1, 3, 1, 4, 3);
        due("four places by X", table.pieces(2), 4);
        due("the same again", table.pieces(2), 4);
        due("fewer ahead", table.pieces(1), 2);
    }

    private static void promise39() {
        promise(39);
        ScissorsTable table = new ScissorsTable();
        int[] empty = {0, 0, 0, 0, 0, 15, 0};
        for (int what = 0; what < 7; what++) {
            due("most(" + what + ") of none", table.most(what), empty[what]);
        }
        table = told(BY_19 + ";" + EVEN_SIDED + ";b2:0,0,0/1,1,1;b3:5,5,5/1,1,1;t1:0,0,0/2,0,0/0,2,0/0,0,2");
        due("M", table.most(0), 34);
        due("P", table.most(1), 19);
        due("EVEN", table.most(2), 3 + 0 + 36 + 36 + 3);
        due("SIX", table.most(3), 30);
        due("with a POINT", table.most(4), 2);
        due("without SUM", table.most(5), 12);
        due("couples", table.most(6), 1);
        for (int bad : new int[] {-1, 7, LEAST, GREATEST}) {
            due("most(" + bad + ")", table.most(bad), HIDDEN);
        }
        table = told("b0:0,0,0/1,1,1;b1:0,0,0/1,1,1;b3:0,0,0/1,1,1;t2:0,0,0/6,0,0/0,1,0/0,0,1");
        due("couples of three", table.most(6), 3);
        due("without SUM", table.most(5), 11);
        table.drop(18);
        due("an empty one is without SUM", table.most(5), 15);
        due("but no couple", table.most(6), 3);
        due("M", table.most(0), 0);
        due("P", table.most(1), 0);
        due("SIX", table.most(3), 1);
    }
}
