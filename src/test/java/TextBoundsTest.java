/** The sentences about the TAPE, TEXTS and CLAUSES that name a boundary, each on both sides of it. */
public final class TextBoundsTest extends Checks {
    /** All three kinds of CLAUSES, each sign of it by what can stand there. */
    private static final String TEXT = "t3:-9,8,0/0,-7,6/5,4,-3/2,1,9;b0:0,-1,2/1,9,5;p2:9/0,0/1,-1/5,0/2,8/0,9/-1,4";
    /** k a kind, s a SOLID, n a number begins, d the digit behind a -, h a number 1 .. 9, e a / or the end of a CLAUSE. */
    private static final String KINDS = "ks:nd,n,n/n,nd,n/n,n,nd/n,n,n;ks:n,nd,n/h,h,h;ks:h/n,n/n,nd/n,nen,nen,nend,n";

    public static void main(String[] args) {
        newObject();
        lastCall();
        feedOrder();
        feedNoughts();
        feedFull();
        endBounds();
        everyByte();
        everyEnd();
        everyBlank();
        everySecondDigit();
        faultsNamed();
        solidDigits();
        boxSides();
        heights();
        polygons();
        cornerNumbers();
        flatTets();
        boxesBeyond();
        turningPrisms();
        prismNumbers();
        moreThan48();
        leftOutWhole();
        textTakesAll();
        textRefused();
        counts();
        close("TextBoundsTest");
    }

    private static void newObject() {
        says("`ScissorsTable()`: No TETS, nothing PICKED, no PLAN.");
        ScissorsTable table = new ScissorsTable();
        due("count(0)", table.count(0), 0);
        due("tet(0, 0) throws", tetThrows(table, 0, 0), true);
        due("count(1)", table.count(1), 0);
        due("count(2)", table.count(2), 0);
        due("unpick()", table.unpick(), 0);
        due("count(3)", table.count(3), NONE);
        due("side(0, 0)", table.side(0, 0), HIDDEN);
        ScissorsTable other = told(RIGHT);
        other.pick(0, 0);
        other.plan(1, 1, 1, 1, 1, 1);
        due("one TET", other.count(0), 1);
        due("one PICKED", other.count(2), 1);
        due("a PLAN of no STEPS", other.count(3), 0);
        due("another object has none of these", new ScissorsTable().count(0), 0);
        due("the first object has none of these", table.count(0), 0);
        says("The constants: `NONE = -1`: None.");
        due("NONE", ScissorsTable.NONE, -1);
        says("`HIDDEN = -1000000`: Not told.");
        due("HIDDEN", ScissorsTable.HIDDEN, -1000000);
    }

    private static void lastCall() {
        says("An object is used for at most 512 calls after it has been made");
        ScissorsTable table = told(OF_4);
        int calls = 3;
        for (; calls < 510; calls += 3) {
            due("cut, call " + calls, table.cut(0, 0, 0, 2), 2);
            due("join", table.join(0, 1), 0);
            due("SUM", table.much(0, 2, 3), 12);
        }
        due("turn, call " + calls, table.turn(0, 7), 3);
        due("corner", table.corner(0, 1, 0), -4);
        due("calls", calls + 2, 512);
    }

    private static void feedOrder() {
        says("Twenty bytes more come to the TAPE (of each number the highest first");
        ScissorsTable table = new ScissorsTable();
        due("t3:- 9,-8 ,7/6 ,5,4", table.feed(0x74333A2D, 0x392C2D38, 0x2C372F36, 0x2C352C34, 0x2F332C32), 20);
        due(",1/1,2,4", table.feed(0x2C312F31, 0x2C322C34, 0, 0, 0), 28);
        due("text()", table.text(), 0);
        cornersAre(table, 0, -9, -8, 7, 6, 5, 4, 3, 2, 1, 1, 2, 4);
        // Each of the twenty places of a call in turn, all others 0.
        ScissorsTable single = new ScissorsTable();
        for (int k = 0; k < RIGHT.length(); k++) {
            int[] words = new int[5];
            words[k % 20 / 4] = RIGHT.charAt(k) << 24 - 8 * (k % 4);
            due("place " + k % 20, single.feed(words[0], words[1], words[2], words[3], words[4]), k + 1);
        }
        due("text()", single.text(), 0);
        due("count(0)", single.count(0), 1);
    }

    private static void feedNoughts() {
        says("bytes of 0 are left out): how many it has");
        ScissorsTable table = new ScissorsTable();
        due("twenty noughts", table.feed(0, 0, 0, 0, 0), 0);
        due("1 is no nought", table.feed(1, 0, 0, 0, 0), 1);
        due("255 is no nought", table.feed(255, 0, 0, 0, 0), 2);
        due("128 highest", table.feed(LEAST, 0, 0, 0, 0), 3);
        due("all set", table.feed(-1, -1, -1, -1, -1), 23);
        due("noughts between", table.feed(0x01000100, 0x00010001, 0x00FF0000, 0, 0x01010101), 32);
        due("noughts again", table.feed(0, 0, 0, 0, 0), 32);
    }

    private static ScissorsTable bytes(int count) {
        return written(" ".repeat(count));
    }

    private static void feedFull() {
        says("NONE: more than 600.");
        int four = 0x20202020;
        due("580 and 20", bytes(580).feed(four, four, four, four, four), 600);
        due("581 and 20", bytes(581).feed(four, four, four, four, four), NONE);
        due("581 and 19", bytes(581).feed(four, four, four, four, four >>> 8), 600);
        for (int place = 0; place < 20; place++) {
            int[] w = new int[5];
            w[place / 4] = 32 << 24 - 8 * (place % 4);
            ScissorsTable table = bytes(599);
            due("599 and 1 at " + place, table.feed(w[0], w[1], w[2], w[3], w[4]), 600);
            due("600 and 1 at " + place, table.feed(w[0], w[1], w[2], w[3], w[4]), NONE);
            due("600 stay", table.count(1), 600);
            due("600 and none", table.feed(0, 0, 0, 0, 0), 600);
        }
        for (int k = 0; k < 5; k++) {
            int[] w = new int[5];
            w[k] = four;
            due("596 and 4 in number " + k, bytes(596).feed(w[0], w[1], w[2], w[3], w[4]), 600);
            due("597 and 4 in number " + k, bytes(597).feed(w[0], w[1], w[2], w[3], w[4]), NONE);
        }
        ScissorsTable table = bytes(590);
        due("590 and 20", table.feed(four, four, four, four, four), NONE);
        due("none of them came", table.count(1), 590);
        due("10 come", table.feed(four, four, 0x2020, 0, 0), 600);
        // A TEXT of just 600 bytes is told.
        String text = RIGHT + " ".repeat(600 - 26);
        ScissorsTable full = written(text);
        due("600 bytes", full.count(1), 600);
        due("no FAULT", full.fault(), NONE);
        due("end of it", full.end(600), true);
        due("text()", full.text(), 0);
        ScissorsTable faulty = written(" ".repeat(599) + "x");
        due("FAULT at the last byte", faulty.fault(), 599);
        due("it ends too early", bytes(600).fault(), 600);
    }

    private static void endBounds() {
        says("The TAPE has its first n bytes alone. False: n.");
        ScissorsTable table = written(RIGHT + ";" + EVEN_SIDED);
        due("end(-1)", table.end(-1), false);
        due("end(least)", table.end(LEAST), false);
        due("end(54)", table.end(54), false);
        due("end(greatest)", table.end(GREATEST), false);
        due("nothing changed", table.count(1), 53);
        due("end(53)", table.end(53), true);
        due("all 53", table.count(1), 53);
        due("end(27)", table.end(27), true);
        due("the ; is the last", table.fault(), 27);
        due("end(28)", table.end(28), false);
        due("end(26)", table.end(26), true);
        due("the first CLAUSE alone", table.fault(), NONE);
        due("what was cut off does not come again", write(table, ";"), 27);
        due("it ends too early", table.fault(), 27);
        due("end(0)", table.end(0), true);
        due("none", table.count(1), 0);
        due("end(0) of none", table.end(0), true);
        due("end(1) of none", table.end(1), false);
    }

    private static boolean canStand(char kind, int sign) {
        boolean digit = sign >= '0' && sign <= '9';
        switch (kind) {
            case 'k': return sign == 't' || sign == 'b' || sign == 'p' || sign == ' ';
            case 's': return sign >= '0' && sign <= '3' || sign == ' ';
            case 'n': return digit || sign == '-' || sign == ' ';
            case 'd': return digit;
            case 'h': return digit && sign != '0' || sign == ' ';
            case 'e': return sign == '/' || sign == ';' || sign == ' ';
            default: return sign == kind || sign == ' ';
        }
    }

    private static void everyByte() {
        says("FAULT: the first byte at which no such TEXT can go on");
        due("as many kinds as signs", KINDS.length(), TEXT.length());
        for (int at = 0; at < TEXT.length(); at++) {
            for (int sign = 1; sign < 256; sign++) {
                String text = TEXT.substring(0, at) + (char) sign + TEXT.substring(at + 1);
                due(sign + " at " + at + " is the FAULT", written(text).fault() == at, !canStand(KINDS.charAt(at), sign));
            }
        }
        says("any byte that can't stand there");
        for (int sign = 1; sign < 256; sign++) {
            int behind = sign == ' ' ? NONE : sign == ';' ? 1 : 0;
            appended(RIGHT, sign, behind);
            appended("b0:0,0,0/1,1,1", sign, behind);
            appended("p0:1/0,0/1,0/0,1", sign, sign == '/' ? 1 : behind);
            appended("p0:1/0,0/1,0/0,1/2,2/3,3", sign, sign == '/' ? 1 : behind);
            appended("p0:1/0,0/1,0/0,1/2,2/3,3/4,4", sign, behind);
        }
    }

    private static void appended(String text, int sign, int behind) {
        due(sign + " behind " + text, written(text + (char) sign).fault(), behind == NONE ? NONE : text.length() + behind);
    }

    private static boolean isWhole(int length) {
        return length == TEXT.length() || length > 0 && (KINDS.charAt(length) == ';' || KINDS.charAt(length) == 'e');
    }

    private static void everyEnd() {
        says("(the length, if it ends too early)");
        for (int length = 0; length <= TEXT.length(); length++) {
            String start = TEXT.substring(0, length);
            boolean sign = length > 0 && TEXT.charAt(length - 1) == '-';
            faultIs(start, isWhole(length) ? NONE : length);
            due("blanks at the end of " + start, written(start + "  ").fault(), isWhole(length) ? NONE : sign ? length : length + 2);
        }
    }

    private static void everyBlank() {
        says("Blanks (32) may stand between all signs, not behind a -.");
        for (int at = 0; at <= TEXT.length(); at++) {
            boolean behind = at > 0 && TEXT.charAt(at - 1) == '-';
            String head = TEXT.substring(0, at);
            String tail = TEXT.substring(at);
            due("a blank at " + at, written(head + " " + tail).fault(), behind ? at : NONE);
            due("four blanks at " + at, written(head + "    " + tail).fault(), behind ? at : NONE);
            for (int other : new int[] {9, 10, 13, 31, 33, 160, 255}) {
                due(other + " at " + at, written(head + (char) other + tail).fault(), at);
            }
        }
        ScissorsTable table = told("  t 3 :  -9 , 9,0 /0 ,-0,  0/1,  -2,3 / 0,0,1  ;  b 2:0,0,0 /1 , 2,3 ");
        cornersAre(table, 0, -9, 9, 0, 0, 0, 0, 1, -2, 3, 0, 0, 1);
        due("the SOLID of the BOX", table.tet(6, 0), 2);
        due("SIX of the BOX", table.solid(2, 0), 36);
    }

    private static void everySecondDigit() {
        says("a second digit");
        for (int at = 0; at < TEXT.length(); at++) {
            char sign = TEXT.charAt(at);
            if (sign >= '0' && sign <= '9') {
                String head = TEXT.substring(0, at + 1);
                String tail = TEXT.substring(at + 1);
                due("0 behind " + head, written(head + "0" + tail).fault(), at + 1);
                due("1 behind " + head, written(head + " 1" + tail).fault(), at + 2);
            }
        }
    }

    private static void faultsNamed() {
        says("SOLIDS are told by a TEXT: CLAUSES with ; between");
        faultIs(RIGHT, NONE);
        faultIs(RIGHT + ";" + RIGHT, NONE);
        faultIs(RIGHT + ";" + RIGHT + ";", 54);
        faultIs(";" + RIGHT, 0);
        faultIs(RIGHT + ";;" + RIGHT, 27);
        faultIs(RIGHT + RIGHT, 26);
        faultIs(RIGHT + "," + RIGHT, 26);
        says("a seventh corner of a PRISM");
        faultIs("p0:1/0,0/1,0/0,1/0,0/0,0/0,0", NONE);
        faultIs("p0:1/0,0/1,0/0,1/0,0/0,0/0,0/0,0", 28);
        faultIs("p0:1/0,0/1,0/0,1/0,0/0,0/0,0 ;" + RIGHT, NONE);
        says("a digit out of bounds");
        faultIs("t3", 2);
        faultIs("t4", 1);
        faultIs("b0:0,0,0/1", 10);
        faultIs("b0:0,0,0/0", 9);
        says("`int fault()`: The FAULT of the TAPE. NONE: none.");
        ScissorsTable table = written("t0");
        due("too early", table.fault(), 2);
        due("again", table.fault(), 2);
        write(table, ":0,0,0/1,0,0/0,1,0/0,0,1");
        due("none now", table.fault(), NONE);
        due("the TAPE stays", table.count(1), 26);
    }

    private static void solidDigits() {
        says("SOLIDS 0 .. 3 are bags of TETS");
        says("t and a digit 0 .. 3 (the SOLID)");
        String tet = RIGHT.substring(2);
        String box = ":0,0,0/1,1,1";
        String prism = ":1/0,0/1,0/0,1";
        for (int solid = 0; solid < 10; solid++) {
            faultIs("t" + solid + tet, solid < 4 ? NONE : 1);
            faultIs("b" + solid + box, solid < 4 ? NONE : 1);
            faultIs("p" + solid + prism, solid < 4 ? NONE : 1);
        }
        for (int solid = 0; solid < 4; solid++) {
            ScissorsTable table = told("t" + solid + tet + ";b" + (solid + 1) % 4 + box + ";p" + (solid + 2) % 4 + prism);
            due("SOLID of the TET", table.tet(0, 0), solid);
            due("SOLID of the BOX", table.tet(1, 0), (solid + 1) % 4);
            due("SOLID of the BOX", table.tet(6, 0), (solid + 1) % 4);
            due("SOLID of the PRISM", table.tet(7, 0), (solid + 2) % 4);
            due("SOLID of the PRISM", table.tet(9, 0), (solid + 2) % 4);
            due("no more", table.count(0), 10);
        }
    }

    private static void boxSides() {
        says("three numbers 1 .. 9 with , between");
        for (int place = 0; place < 3; place++) {
            for (int side = 0; side < 10; side++) {
                int[] sides = {1, 1, 1};
                sides[place] = side;
                String text = "b0:0,0,0/" + sides[0] + "," + sides[1] + "," + sides[2];
                faultIs(text, side == 0 ? 9 + 2 * place : NONE);
                if (side > 0) {
                    due("SIX of " + text, told(text).solid(0, 0), 6 * side);
                }
            }
        }
        faultIs("b0:0,0,0/-1,1,1", 9);
        faultIs("b0:0,0,0/1,1", 12);
        faultIs("b0:0,0,0/1,1,1,1", 14);
        says("six TETS: from the CORNER to that across from it");
        ScissorsTable table = told("b2:-9,-9,-9/9,9,9");
        due("six", table.count(0), 6);
        for (int tet = 0; tet < 6; tet++) {
            due("from the CORNER", table.corner(tet, 0, 0) + table.corner(tet, 0, 1) + table.corner(tet, 0, 2), -27);
            due("to that across", table.corner(tet, 3, 0) + table.corner(tet, 3, 1) + table.corner(tet, 3, 2), 0);
            due("SIX", table.tet(tet, 1), 729);
        }
    }

    private static void heights() {
        says("a number 1 .. 9 (its HEIGHT)");
        for (int height = 0; height < 10; height++) {
            String text = "p0:" + height + "/0,0/1,0/0,1";
            faultIs(text, height == 0 ? 3 : NONE);
            if (height > 0) {
                ScissorsTable table = told(text);
                due("SIX of HEIGHT " + height, table.solid(0, 0), 3 * height);
                due("from Z 0", table.corner(0, 0, 2), 0);
                due("to HEIGHT", table.corner(0, 3, 2), height);
            }
        }
        faultIs("p0:-1/0,0/1,0/0,1", 3);
        faultIs("p0:10/0,0/1,0/0,1", 4);
    }

    private static void polygons() {
        says("then 3 to 6 times / and two numbers -9 .. 9 with , between");
        String[] corners = {"/2,0", "/1,2", "/-1,2", "/-2,0", "/-1,-2", "/1,-2", "/2,-1"};
        StringBuilder text = new StringBuilder("p0:1");
        for (int count = 1; count <= 7; count++) {
            text.append(corners[count - 1]);
            int want = count < 3 ? text.length() : count == 7 ? text.length() - 5 : NONE;
            faultIs(text.toString(), want);
            if (count < 3) {
                faultIs(text + ";", text.length());
            }
            if (want == NONE) {
                leavesOut(text.toString(), 0, 3 * (count - 2));
            }
        }
        faultIs("p0:1/9,9/-9,9/-9,-9/9,-9", NONE);
        leavesOut("p0:1/9,9/-9,9/-9,-9/9,-9", 0, 6);
        faultIs("p0:1/10,9", 6);
        faultIs("p0:1/-10,9", 7);
        faultIs("p0:1/9,-10", 9);
    }

    private static void cornerNumbers() {
        says("CORNERS' numbers: a - or none and one digit.");
        String rest = ",0,0/1,1,0/1,0,1/0,1,1";
        for (int number = -9; number <= 9; number++) {
            String text = "t0:" + number + rest;
            faultIs(text, NONE);
            ScissorsTable table = written(text);
            table.text();
            // X 2 and Y 0, Z 0 are in the plane of the other three.
            due("told " + number, table.count(0), number == 2 ? 0 : 1);
            due("X " + number, table.corner(0, 0, 0), number == 2 ? HIDDEN : number);
        }
        faultIs("t0:-0" + rest, NONE);
        due("-0", told("t0:-0" + rest).corner(0, 0, 0), 0);
        faultIs("t0:--1" + rest, 4);
        faultIs("t0:+1" + rest, 3);
        faultIs("t0:- 1" + rest, 4);
        faultIs("t0:10" + rest, 4);
        faultIs("t0:-10" + rest, 5);
        faultIs("t0:00" + rest, 4);
        faultIs("t0:1-" + rest, 4);
        faultIs("t0:" + rest, 3);
        faultIs("t0:-" + rest, 4);
        says("A CORNER has X, Y, Z, whole numbers -9 .. 9.");
        cornersAre(told("t0:-9,-9,-9/9,-9,-9/-9,9,-9/-9,-9,9"), 0, -9, -9, -9, 9, -9, -9, -9, 9, -9, -9, -9, 9);
        faultIs("t0:0,0,0,0", 8);
        faultIs("t0:0,0/", 6);
    }

    private static void flatTets() {
        says("A TET: four CORNERS not in one plane.");
        says("a TET in one plane");
        leavesOut("t0:0,0,0/1,0,0/0,1,0/0,0,1", 0, 1);
        leavesOut("t0:0,0,0/1,0,0/0,1,0/9,9,0", 1, 0);
        leavesOut("t0:0,0,0/1,0,0/0,1,0/9,9,1", 0, 1);
        leavesOut("t0:0,0,0/1,0,0/0,1,0/9,9,-1", 0, 1);
        leavesOut("t0:0,0,5/1,0,5/0,1,5/9,-9,5", 1, 0);
        leavesOut("t0:5,0,0/5,1,0/5,0,1/5,-9,3", 1, 0);
        leavesOut("t0:0,5,0/1,5,0/0,5,1/-9,5,3", 1, 0);
        // Aslant: X, Y and Z added are 3.
        leavesOut("t0:3,0,0/0,3,0/0,0,3/1,1,1", 1, 0);
        leavesOut("t0:3,0,0/0,3,0/0,0,3/1,1,2", 0, 1);
        leavesOut("t0:3,0,0/0,3,0/0,0,3/9,-9,3", 1, 0);
        // Three in one line, two the same, all the same.
        leavesOut("t0:0,0,0/1,2,3/2,4,6/0,0,1", 1, 0);
        leavesOut("t0:0,0,0/1,2,3/2,4,7/0,1,1", 0, 1);
        for (int k = 0; k < 6; k++) {
            String[] c = {"0,0,0", "1,0,0", "0,1,0", "0,0,1"};
            int[] ends = {0, 1, 0, 2, 0, 3, 1, 2, 1, 3, 2, 3};
            c[ends[2 * k + 1]] = c[ends[2 * k]];
            leavesOut("t0:" + String.join("/", c), 1, 0);
        }
        leavesOut("t0:5,5,5/5,5,5/5,5,5/5,5,5", 1, 0);
        says("SIX: six times its volume, a whole number above 0.");
        due("as little as can be", told("t0:0,0,0/9,8,0/8,7,0/0,0,1").tet(0, 1), 1);
        due("as little as can be", told("t0:-9,-9,-9/9,8,-9/8,7,-9/0,0,-8").tet(0, 1), 1);
        due("two", told("t0:0,0,0/9,8,0/8,7,0/0,0,2").tet(0, 1), 2);
        due("as great as can be", told("t0:-9,-9,-9/9,9,-9/9,-9,9/-9,9,9").tet(0, 1), 2 * 18 * 18 * 18);
        due("the other way round", told("t0:-9,-9,-9/9,-9,9/9,9,-9/-9,9,9").tet(0, 1), 2 * 18 * 18 * 18);
    }

    private static void boxesBeyond() {
        says("a BOX beyond 9");
        for (int axis = 0; axis < 3; axis++) {
            for (int from = -9; from <= 9; from++) {
                for (int side = 1; side <= 9; side++) {
                    int[] at = {0, 0, 0};
                    int[] sides = {1, 1, 1};
                    at[axis] = from;
                    sides[axis] = side;
                    boolean fits = from + side <= 9;
                    leavesOut("b0:" + at[0] + "," + at[1] + "," + at[2] + "/" + sides[0] + "," + sides[1] + "," + sides[2],
                            fits ? 0 : 1, fits ? 6 : 0);
                }
            }
        }
    }

    private static void turningPrisms() {
        says("a PRISM of whose corners not each three, in their order, turn to one side (the same of all)");
        leavesOut("p0:1/0,0/1,0/0,1", 0, 3);
        leavesOut("p0:1/0,0/0,1/1,0", 0, 3);
        leavesOut("p0:1/0,0/1,0/2,0", 1, 0);
        leavesOut("p0:1/0,0/9,1/-9,-1", 1, 0);
        leavesOut("p0:1/0,0/9,1/-9,-2", 0, 3);
        leavesOut("p0:1/3,3/3,3/4,5", 1, 0);
        leavesOut("p0:1/3,3/4,5/3,3", 1, 0);
        // Of four corners each one of the four threes in one line, or turned back.
        leavesOut("p0:1/0,0/2,0/2,2/0,2", 0, 6);
        leavesOut("p0:1/0,0/1,0/2,0/0,2", 1, 0);
        leavesOut("p0:1/0,0/2,0/1,1/0,2", 1, 0);
        leavesOut("p0:1/0,0/2,0/2,2/1,1", 1, 0);
        leavesOut("p0:1/1,0/2,0/2,2/0,0", 1, 0);
        leavesOut("p0:1/0,0/2,0/2,2/1,3", 0, 6);
        leavesOut("p0:1/0,0/4,0/1,1/0,4", 1, 0);
        leavesOut("p0:1/4,0/1,1/0,4/0,0", 1, 0);
        leavesOut("p0:1/0,0/2,2/2,0/0,2", 1, 0);
        leavesOut("p0:1/0,0/2,0/0,2/2,2", 1, 0);
        // Corner by corner all turn left, but it goes round twice.
        leavesOut("p0:1/0,5/-3,-4/5,1/-5,1/3,-4", 1, 0);
        leavesOut("p0:1/0,5/-5,1/-3,-4/3,-4/5,1", 0, 9);
        leavesOut("p0:1/5,1/3,-4/-3,-4/-5,1/0,5", 0, 9);
        // Six, and six of which the last is in one line with its neighbours.
        leavesOut("p0:9/2,0/1,2/-1,2/-2,0/-1,-2/1,-2", 0, 12);
        leavesOut("p0:9/2,0/1,2/-1,2/-2,0/-1,-2/0,-2", 0, 12);
        leavesOut("p0:9/2,0/1,2/0,2/-1,2/-1,-2/1,-2", 1, 0);
        leavesOut("p0:9/0,-4/1,2/-1,2/-2,0/-1,-2/0,-4", 1, 0);
        leavesOut("p0:9/3,-3/2,2/-1,2/-2,0/-1,-2/1,-3", 0, 12);
        leavesOut("p0:9/1,2/-1,2/-2,0/-1,-2/1,-2/1,0", 1, 0);
    }

    private static void prismNumbers() {
        says("for each corner C but the first, the second: of the first A, that ahead B, this C the TETS A B C C', A B B' C', A A' B' C'");
        ScissorsTable three = told("p0:5/1,2/3,4/2,9");
        due("three corners", three.count(0), 3);
        cornersAre(three, 0, 1, 2, 0, 3, 4, 0, 2, 9, 0, 2, 9, 5);
        cornersAre(three, 1, 1, 2, 0, 3, 4, 0, 3, 4, 5, 2, 9, 5);
        cornersAre(three, 2, 1, 2, 0, 1, 2, 5, 3, 4, 5, 2, 9, 5);
        ScissorsTable six = told("p3:9/2,0/1,2/-1,2/-2,0/-1,-2/1,-2");
        due("six corners", six.count(0), 12);
        cornersAre(six, 9, 2, 0, 0, -1, -2, 0, 1, -2, 0, 1, -2, 9);
        cornersAre(six, 10, 2, 0, 0, -1, -2, 0, -1, -2, 9, 1, -2, 9);
        cornersAre(six, 11, 2, 0, 0, 2, 0, 9, -1, -2, 9, 1, -2, 9);
        // The hexagon's doubled area is 24: 3 times the HEIGHT times that.
        due("SIX", six.solid(3, 0), 3 * 9 * 24);
        due("all angles of a PRISM add up to nothing", six.solid(3, 3), 0);
    }

    private static void moreThan48() {
        says("numbered 0 on, one behind the other, 48 at most in all");
        says("more than 48 TETS");
        String hexagon = ";p2:9/2,0/1,2/-1,2/-2,0/-1,-2/1,-2";
        String square = ";p2:1/0,0/2,0/2,2/0,2";
        String triangle = ";p2:1/0,0/2,0/2,2";
        String box = ";b2:0,0,0/1,1,1";
        String tet = ";t2:0,0,0/1,0,0/0,1,0/0,0,1";
        String[] clauses = {tet, triangle, square, box, ";p2:1/0,5/-5,1/-3,-4/3,-4/5,1", hexagon};
        int[] sizes = {1, 3, 6, 6, 9, 12};
        for (int k = 0; k < clauses.length; k++) {
            leavesOut(tets(48 - sizes[k]) + clauses[k], 0, 48);
            leavesOut(tets(49 - sizes[k]) + clauses[k], 1, 49 - sizes[k]);
            leavesOut(tets(48) + clauses[k], 1, 48);
        }
        leavesOut(tets(47) + box + tet + tet, 2, 48);
        leavesOut(tets(43) + hexagon + box + triangle + tet + tet + tet, 3, 48);
        ScissorsTable table = told(tets(48));
        due("the last", table.tet(47, 0), 1);
        due("behind the last", tetThrows(table, 48, 0), true);
    }

    private static void leftOutWhole() {
        says("A CLAUSE that can't be is left out whole");
        // Of the BOX and the PRISM that can't be not one TET is told; what is behind it comes up.
        ScissorsTable table = told("t3:0,0,0/1,0,0/0,1,0/0,0,1;b0:0,0,1/1,1,9;p1:1/0,0/2,0/1,1/0,2;t2:0,0,0/2,0,0/0,2,0/0,0,2");
        due("two TETS", table.count(0), 2);
        due("the first", table.tet(0, 0), 3);
        due("the last", table.tet(1, 0), 2);
        due("nothing of the BOX", table.solid(0, 1), 0);
        due("nothing of the PRISM", table.solid(1, 1), 0);
        says("how many CLAUSES were left out");
        String flat = "t0:0,0,0/1,0,0/0,1,0/1,1,0";
        leavesOut(RIGHT, 0, 1);
        leavesOut(flat, 1, 0);
        leavesOut(flat + ";" + flat, 2, 0);
        leavesOut(RIGHT + ";" + flat + ";" + RIGHT + ";" + flat, 2, 2);
        StringBuilder all = new StringBuilder("p0:1/0,0/0,0/0,0");
        for (int k = 1; k < 35; k++) {
            all.append(";p0:1/0,0/0,0/0,0");
        }
        leavesOut(all.toString(), 35, 0);
    }

    private static void textTakesAll() {
        says("The TAPE (empty then) tells all SOLIDS (all TETS, what was PICKED are gone ahead)");
        ScissorsTable table = told(RIGHT + ";" + EVEN_SIDED);
        due("the TAPE is empty", table.count(1), 0);
        due("and is a FAULT now", table.fault(), 0);
        table.pick(0, 3);
        table.plan(2, 2, 2, 1, 4, 2);
        write(table, "t2:0,0,0/2,0,0/0,2,0/0,0,2");
        due("text()", table.text(), 0);
        due("the old ones are gone", table.count(0), 1);
        due("PICKED are gone", table.count(2), 0);
        due("the old SUM is gone", table.much(1, 2, 3), 0);
        due("the old volume is gone", table.solid(1, 0), 0);
        due("the new SUM", table.much(2, 2, 3), 6);
        due("the PLAN stays", table.count(3), 1);
        table.pick(0, 0);
        write(table, "t2:0,0,0/2,0,0/0,2,0/2,2,0");
        due("all are left out", table.text(), 1);
        due("TETS are gone all the same", table.count(0), 0);
        due("PICKED are gone all the same", table.count(2), 0);
        due("SUMS are gone all the same", table.most(5), 15);
        due("the TAPE is empty", table.count(1), 0);
    }

    private static void textRefused() {
        says("NONE: a FAULT (the TAPE and all stays).");
        for (String tape : new String[] {"", " ", "t", RIGHT + ";", RIGHT + "x", "t4:0,0,0/1,0,0/0,1,0/0,0,1"}) {
            ScissorsTable table = told(RIGHT + ";" + EVEN_SIDED);
            table.pick(0, 3);
            table.pick(1, 0);
            table.plan(2, 2, 2, 1, 4, 2);
            write(table, tape);
            refused(table, "text() of \"" + tape + "\"", t -> t.text(), NONE);
            due("the TAPE stays", table.count(1), tape.length());
        }
    }

    private static void counts() {
        says("0 TETS, 1 bytes of the TAPE, 2 PICKED ones, 3 STEPS of the PLAN (NONE without). HIDDEN for others.");
        ScissorsTable table = told(RIGHT + ";" + EVEN_SIDED);
        due("without a PLAN", table.count(3), NONE);
        table.plan(1, 1, 7, 7, 1, 1);
        due("without a PLAN", table.count(3), NONE);
        write(table, "abc");
        table.pick(0, 0);
        table.plan(4, 4, 4, 4, 4, 4);
        due("count(-1)", table.count(-1), HIDDEN);
        due("count(0)", table.count(0), 2);
        due("count(1)", table.count(1), 3);
        due("count(2)", table.count(2), 1);
        due("count(3)", table.count(3), 0);
        due("count(4)", table.count(4), HIDDEN);
        due("count(least)", table.count(LEAST), HIDDEN);
        due("count(greatest)", table.count(GREATEST), HIDDEN);
    }
}
